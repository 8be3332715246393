import java.lang.reflect.InvocationTargetException;
import java.lang.reflect.Method;
import java.util.ArrayList;
import java.util.HashMap;
import java.util.List;
import java.util.Map;
import java.util.Random;
import java.util.TreeMap;

/** All promises: runs of 512 calls, drawn from fixed seeds, are answered by the program as by the model. */
public final class ModelTest {
    private static final int RUNS = 400;
    private static final int CALLS = 512;

    // What a run is fond of, so that the runs reach states that evenly drawn calls would not.
    private static final int FEW_CLIPS = 0;
    private static final int LONG_WAITS = 1;
    private static final int FIRST_FRAMES = 2;
    private static final int SHORT_EVENTS = 3;
    private static final int FULL_LOADS = 4;
    private static final int TASTES = 5;

    private static final Map<String, Method> PROGRAM = methods(PlayoutStation.class);
    private static final Map<String, Method> MODEL = methods(Model.class);

    /** Some of the answers that the runs must have met, or they would prove too little. */
    private static final String[] MUST_BE_MET = {
        "record -1", "record -2", "record -3", "record 0", "record 5", "record IllegalStateException",
        "event 0", "event -1", "event -2", "event -3", "event -4", "event -5",
        "remove 0", "remove -2", "remove -4", "remove -5", "swap 0", "swap -2", "swap -3", "swap -4", "swap -5",
        "delete true", "delete false", "stop 0", "stop 1", "disk 2", "fail null", "replace 0", "load 4", "events 12",
    };

    private final Random random;
    private final PlayoutStation program = new PlayoutStation();
    private final Model model = new Model();
    private final Map<String, Integer> met;
    private final List<String> calls = new ArrayList<>();
    private final int taste;
    private boolean differs;

    private ModelTest(long seed, Map<String, Integer> met) {
        this.random = new Random(seed);
        this.met = met;
        this.taste = random.nextInt(TASTES);
    }

    public static void main(String[] args) {
        Map<String, Integer> met = new TreeMap<>();
        int differing = 0;
        for (int run = 0; run < RUNS; run++) {
            ModelTest test = new ModelTest(run, met);
            test.play();
            if (test.differs) {
                differing++;
            }
        }
        for (String answer : MUST_BE_MET) {
            if (!met.containsKey(answer)) {
                System.out.println("no run met: " + answer);
                differing++;
            }
        }
        if (args.length > 0) {
            System.out.println(met);
        }
        System.out.println(differing == 0 ? "all answers are as due" : differing + " runs are not as due");
        if (differing != 0) {
            System.exit(1);
        }
    }

    private void play() {
        if (taste == FULL_LOADS) {
            call("record", 0, 0, 6);
            call("rounds", 8);
        }
        while (calls.size() < CALLS && !differs) {
            if (taste == FULL_LOADS && random.nextInt(30) == 0) {
                fillOneRound();
            }
            int dice = random.nextInt(100);
            if (dice < 8) {
                call("record", few(2), anyClip(), seconds());
            } else if (dice < 12) {
                feedSome(few(2));
            } else if (dice < 14) {
                call("stop", few(2));
            } else if (dice < 46) {
                tryEvent();
            } else if (dice < 51) {
                int c = few(4);
                call("remove", c, few(size(c)));
            } else if (dice < 57) {
                int c = few(4);
                call("swap", c, few(size(c) - 1));
            } else if (dice < 65) {
                goOn();
            } else if (dice < 67) {
                call("rounds", taste == LONG_WAITS ? few(61) : few(12));
            } else {
                look();
            }
        }
    }

    /** Most of the disks get all the load they can have in the round in which the recording would be written. */
    private void fillOneRound() {
        int time = 5 * (model.many(0) + 3);
        for (int c = 0; c < 4; c++) {
            for (int i = 0; i < 4; i++) {
                int in = 5 * random.nextInt(3) + 10 * random.nextInt(2);
                call("event", c, model.events(c), 0, in, in + 1, i == 0 ? time : -1);
            }
        }
        call("load", few(6), 2);
        call("record", few(2), anyClip(), 1 + random.nextInt(2));
    }

    private void goOn() {
        call("round");
        feedSome(0);
        int playing = random.nextInt(4);
        for (int i = 0; i < 4 && model.events(playing) == 0; i++) {
            playing = random.nextInt(4);
        }
        call("shown", playing, few(5));
    }

    private void feedSome(int recorder) {
        int frames = random.nextInt(6);
        for (int f = 0; f < frames; f++) {
            call("feed", recorder, few(5), random.nextInt(1000) - 100);
        }
    }

    private int anyClip() {
        return few(taste == FEW_CLIPS ? 5 : 16);
    }

    private void look() {
        int c = few(4);
        switch (random.nextInt(10)) {
            case 0: call("about", c, few(size(c)), few(6)); break;
            case 1: call("events", c); break;
            case 2: call("clip", few(16), few(3)); break;
            case 3: call("delete", few(16)); break;
            case 4: call("load", few(6), few(taste == LONG_WAITS ? 61 : 15)); break;
            case 5: call("disk", few(6), few(3)); break;
            case 6: call("fail", few(6)); break;
            case 7: call("replace"); break;
            case 8: call("many", few(3)); break;
            default: call("shown", c, few(5)); break;
        }
    }

    private void tryEvent() {
        int c = few(4);
        int clip = anyClip();
        for (int i = 0; i < 8 && (clip < 0 || clip > 15 || model.clip(clip, 0) != 2); i++) {
            clip = anyClip();
        }
        int frames = clip >= 0 && clip < 16 ? 5 * model.clip(clip, 1) : 5;
        int in = taste == FIRST_FRAMES || random.nextInt(4) == 0 ? 0 : few(Math.max(1, frames - 1));
        int most = Math.max(1, frames - in + (random.nextInt(12) == 0 ? 3 : 0));
        int out = in + (taste >= SHORT_EVENTS ? 1 + random.nextInt(Math.min(most, 3)) : few(most) + 1);
        int now = 5 * model.many(0);
        int k = random.nextInt(3) == 0 ? few(size(c) + 1) : size(c);
        int time = -1;
        if (size(c) == 0 || random.nextInt(3) == 0) {
            int from = k > 0 && k <= size(c) && random.nextInt(3) > 0 ? end(c, k - 1) : now + 10;
            time = Math.max(-1, from - 2 + random.nextInt(random.nextInt(6) == 0 ? 300 : 12));
        }
        call("event", c, k, clip, in, out, time);
    }

    private int end(int channel, int k) {
        if (channel < 0 || channel > 3) {
            return 0;
        }
        return model.about(channel, k, 4) + model.about(channel, k, 2) - model.about(channel, k, 1);
    }

    private int seconds() {
        if (taste == SHORT_EVENTS) {
            return 1 + few(4);
        }
        if (taste == FULL_LOADS) {
            return 1 + few(3);
        }
        return random.nextInt(5) == 0 ? 1 + few(30) : 1 + few(8);
    }

    private int size(int channel) {
        return channel < 0 || channel > 3 ? 0 : model.events(channel);
    }

    /** Mostly 0 .. n - 1, now and then a number just out of that. */
    private int few(int n) {
        int dice = random.nextInt(150);
        if (dice == 0 || n <= 0) {
            return random.nextBoolean() ? -1 : Math.max(n, 0);
        }
        return random.nextInt(n);
    }

    private void call(String name, Integer... args) {
        if (calls.size() == CALLS) {
            return;
        }
        String want = answer(MODEL.get(name), model, args);
        String got = answer(PROGRAM.get(name), program, args);
        calls.add(name + List.of(args) + " = " + want);
        met.merge(name + " " + want, 1, Integer::sum);
        if (!want.equals(got)) {
            differs = true;
            for (String line : calls) {
                System.out.println(line);
            }
            System.out.println("but the program answered " + got);
        }
    }

    private static String answer(Method method, Object object, Integer[] args) {
        try {
            return String.valueOf(method.invoke(object, (Object[]) args));
        } catch (InvocationTargetException e) {
            return e.getCause().getClass().getSimpleName();
        } catch (IllegalAccessException e) {
            return e.toString();
        }
    }

    private static Map<String, Method> methods(Class<?> type) {
        Map<String, Method> methods = new HashMap<>();
        for (Method m : type.getDeclaredMethods()) {
            if (java.lang.reflect.Modifier.isPublic(m.getModifiers())) {
                methods.put(m.getName(), m);
            }
        }
        return methods;
    }
}
