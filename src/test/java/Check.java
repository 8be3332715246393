import java.util.List;
import java.util.NoSuchElementException;
import java.util.function.Consumer;
import java.util.function.ObjIntConsumer;
import java.util.function.Supplier;
import java.util.function.ToIntFunction;

/** Counts the answers that are not as due, and makes stations that tests begin with. */
final class Check {
    static final Class<? extends RuntimeException> NO_SUCH = NoSuchElementException.class;
    static final Class<? extends RuntimeException> STATE = IllegalStateException.class;
    static final Class<? extends RuntimeException> ARGUMENT = IllegalArgumentException.class;
    static final Class<? extends RuntimeException> BOUNDS = IndexOutOfBoundsException.class;

    private int wrong;

    void due(String what, long want, long got) {
        if (got != want) {
            wrong++;
            System.out.println(what + " answered " + got + ", due is " + want);
        }
    }

    void due(String what, boolean want, boolean got) {
        due(what, want ? 1 : 0, got ? 1 : 0);
    }

    void throwing(String what, Class<? extends RuntimeException> want, Runnable call) {
        Class<?> got = null;
        try {
            call.run();
        } catch (RuntimeException e) {
            got = e.getClass();
        }
        if (got != want) {
            wrong++;
            System.out.println(what + " threw " + got + ", due is " + want);
        }
    }

    /** The call throws this, and the station is as it would be without the call. */
    void refusing(String what, Class<? extends RuntimeException> want, Supplier<PlayoutStation> make, Consumer<PlayoutStation> call) {
        PlayoutStation x = make.get();
        throwing(what, want, () -> call.accept(x));
        changesNothing(what, make, call);
    }

    /** The call answers this, and the station is as it would be without the call. */
    void refusing(String what, int want, Supplier<PlayoutStation> make, ToIntFunction<PlayoutStation> call) {
        due(what, want, call.applyAsInt(make.get()));
        changesNothing(what, make, call::applyAsInt);
    }

    /** Numbers from low to high are taken; those around them, and the least and the greatest int, are not. */
    void range(String what, int low, int high, Class<? extends RuntimeException> want, Supplier<PlayoutStation> make,
            ObjIntConsumer<PlayoutStation> call) {
        int[] wrongOnes = {low - 1, high + 1, Integer.MIN_VALUE, Integer.MAX_VALUE};
        for (int number : wrongOnes) {
            refusing(what + " " + number, want, make, x -> call.accept(x, number));
        }
        throwing(what + " " + low, null, () -> call.accept(make.get(), low));
        throwing(what + " " + high, null, () -> call.accept(make.get(), high));
    }

    private void changesNothing(String what, Supplier<PlayoutStation> make, Consumer<PlayoutStation> call) {
        int[] later = {0, 1, 2, 5};
        for (int rounds : later) {
            PlayoutStation x = make.get();
            try {
                call.accept(x);
            } catch (RuntimeException e) {
                // Which one it is was looked at before.
            }
            same(what + ", " + rounds + " rounds later", Look.after(rounds, make.get()), Look.after(rounds, x));
        }
    }

    void same(String what, List<String> want, List<String> got) {
        for (int i = 0; i < want.size() || i < got.size(); i++) {
            String wanted = i < want.size() ? want.get(i) : "nothing";
            String found = i < got.size() ? got.get(i) : "nothing";
            if (!wanted.equals(found)) {
                wrong++;
                System.out.println(what + ": " + found + ", due is " + wanted);
                return;
            }
        }
    }

    void end() {
        System.out.println(wrong == 0 ? "all answers are as due" : wrong + " answers are not as due");
        if (wrong != 0) {
            System.exit(1);
        }
    }

    /** What recordClip feeds as a clip's frame: never black, and another one for each clip and frame. */
    static int frameOf(int clip, int frame) {
        return 1000 * (clip + 1) + frame;
    }

    /** Records a clip with the first recorder until it is ready: its start. Takes n + 2 rounds. */
    static int recordClip(PlayoutStation x, int clip, int n) {
        int start = x.record(0, clip, n);
        for (int piece = 0; piece < n; piece++) {
            x.round();
            for (int f = 0; f < 5; f++) {
                x.feed(0, f, frameOf(clip, 5 * piece + f));
            }
        }
        x.rounds(2);
        return start;
    }

    /** A station with one ready clip. */
    static PlayoutStation withClip(int clip, int n) {
        PlayoutStation x = new PlayoutStation();
        recordClip(x, clip, n);
        return x;
    }

    /** The time of frame f in the round that comes so many rounds behind this one. */
    static int time(PlayoutStation x, int roundsAhead, int f) {
        return 5 * (x.many(0) + roundsAhead) + f;
    }
}
