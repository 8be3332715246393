import java.io.IOException;
import java.lang.reflect.InvocationTargetException;
import java.lang.reflect.Method;
import java.nio.file.Files;
import java.nio.file.Path;
import java.util.ArrayList;
import java.util.List;
import java.util.regex.Matcher;
import java.util.regex.Pattern;

/** The run of calls in README.md: each call answers what stands behind it. Run from the project's directory. */
public final class ReadmeTest {
    private static final Pattern CALL = Pattern.compile("x\\.(\\w+)\\(([^)]*)\\);\\s*(.*)");
    private static final Pattern ANSWER = Pattern.compile("// = (-?\\w+).*");
    private static final Pattern EXCEPTION = Pattern.compile("// throws (\\w+).*");

    public static void main(String[] args) throws IOException, IllegalAccessException {
        Check check = new Check();
        PlayoutStation x = new PlayoutStation();
        int calls = 0;
        for (String line : exampleLines()) {
            if (line.startsWith("x.")) {
                calls++;
                check.same(line, List.of(answerTold(line)), List.of(answerOf(x, line)));
            }
        }
        check.due("there are calls in README.md", true, calls > 0);
        check.end();
    }

    private static List<String> exampleLines() throws IOException {
        List<String> lines = new ArrayList<>();
        boolean inside = false;
        for (String line : Files.readAllLines(Path.of("README.md"))) {
            if (line.startsWith("```")) {
                inside = line.equals("```java");
            } else if (inside) {
                lines.add(line);
            }
        }
        return lines;
    }

    private static Matcher parts(String line) {
        Matcher call = CALL.matcher(line);
        if (!call.matches()) {
            throw new AssertionError("not a call: " + line);
        }
        return call;
    }

    private static String answerTold(String line) {
        String comment = parts(line).group(3);
        Matcher answer = ANSWER.matcher(comment);
        Matcher exception = EXCEPTION.matcher(comment);
        return answer.matches() ? answer.group(1) : exception.matches() ? exception.group(1) : "null";
    }

    private static String answerOf(PlayoutStation x, String line) throws IllegalAccessException {
        Matcher call = parts(line);
        try {
            return String.valueOf(method(call.group(1)).invoke(x, numbers(call.group(2))));
        } catch (InvocationTargetException e) {
            return e.getCause().getClass().getSimpleName();
        }
    }

    private static Method method(String name) {
        for (Method m : PlayoutStation.class.getMethods()) {
            if (m.getName().equals(name)) {
                return m;
            }
        }
        throw new AssertionError("no such method: " + name);
    }

    private static Object[] numbers(String text) {
        List<Object> numbers = new ArrayList<>();
        for (String number : text.isEmpty() ? new String[0] : text.split(", ")) {
            numbers.add(Integer.valueOf(number));
        }
        return numbers.toArray();
    }
}
