import java.lang.reflect.Constructor;
import java.lang.reflect.Field;
import java.lang.reflect.Method;
import java.lang.reflect.Modifier;
import java.util.Set;
import java.util.TreeSet;

/** The public face of the document, and rule 1 of LANGUAGE.md. */
public final class FaceTest {
    private static final String[] FACE = {
        "int record(int,int,int) NoSuchElementException IllegalStateException IllegalArgumentException",
        "void feed(int,int,int) NoSuchElementException IllegalStateException IndexOutOfBoundsException",
        "int stop(int) NoSuchElementException IllegalStateException",
        "int event(int,int,int,int,int,int) NoSuchElementException IllegalArgumentException",
        "int remove(int,int) NoSuchElementException",
        "int swap(int,int) NoSuchElementException",
        "int round()",
        "int rounds(int) IllegalArgumentException",
        "int shown(int,int) NoSuchElementException IndexOutOfBoundsException",
        "int about(int,int,int) NoSuchElementException IndexOutOfBoundsException",
        "int events(int) NoSuchElementException",
        "int clip(int,int) NoSuchElementException IndexOutOfBoundsException",
        "boolean delete(int) NoSuchElementException",
        "int load(int,int) NoSuchElementException IndexOutOfBoundsException",
        "int disk(int,int) NoSuchElementException IndexOutOfBoundsException",
        "void fail(int) NoSuchElementException IllegalStateException",
        "int replace() IllegalStateException",
        "int many(int) IndexOutOfBoundsException",
    };

    public static void main(String[] args) {
        Check check = new Check();
        Class<?> face = PlayoutStation.class;
        check.due("public and final", true, Modifier.isPublic(face.getModifiers()) && Modifier.isFinal(face.getModifiers()));
        check.due("constructors", 1, face.getDeclaredConstructors().length);
        for (Constructor<?> c : face.getDeclaredConstructors()) {
            check.due("public constructor without parameters", true, Modifier.isPublic(c.getModifiers()) && c.getParameterCount() == 0);
        }
        methods(check, face);
        for (Field f : face.getDeclaredFields()) {
            check.due(f + " is private", true, Modifier.isPrivate(f.getModifiers()));
            check.due(f + " is no static state", true, !Modifier.isStatic(f.getModifiers()) || Modifier.isFinal(f.getModifiers()));
        }
        for (Class<?> c : face.getDeclaredClasses()) {
            int m = c.getModifiers();
            check.due(c + " is static and not public", true, Modifier.isStatic(m) && !Modifier.isPublic(m) && !Modifier.isProtected(m));
        }
        check.end();
    }

    private static void methods(Check check, Class<?> face) {
        Set<String> found = new TreeSet<>();
        Set<String> publicNames = new TreeSet<>();
        for (Method m : face.getDeclaredMethods()) {
            if (!Modifier.isPrivate(m.getModifiers())) {
                found.add(signature(m));
                publicNames.add(m.getName());
                check.due(m + " is public and no static one", true, Modifier.isPublic(m.getModifiers()) && !Modifier.isStatic(m.getModifiers()));
            }
        }
        check.due("how many public methods", FACE.length, found.size());
        for (String want : FACE) {
            check.due(want, true, found.contains(want));
        }
        for (Method m : face.getDeclaredMethods()) {
            boolean bears = Modifier.isPrivate(m.getModifiers()) && publicNames.contains(m.getName());
            check.due(m + " bears the name of a public one", false, bears);
        }
    }

    private static String signature(Method m) {
        StringBuilder text = new StringBuilder();
        text.append(m.getReturnType().getSimpleName()).append(' ').append(m.getName()).append('(');
        for (int i = 0; i < m.getParameterCount(); i++) {
            text.append(i == 0 ? "" : ",").append(m.getParameterTypes()[i].getSimpleName());
        }
        text.append(')');
        for (Class<?> e : m.getExceptionTypes()) {
            text.append(' ').append(e.getSimpleName());
        }
        return text.toString();
    }
}
