import java.util.NoSuchElementException;

/** Counts the answers that are not as due, and makes stations that tests begin with. */
final class Check {
    static final Class<? extends RuntimeException> NO_SUCH = NoSuchElementException.class;
    static final Class<? extends RuntimeException> STATE = IllegalStateException.class;
    static final Class<? extends RuntimeException> ARGUMENT = IllegalArgumentException.class;
    static final Class<? extends RuntimeException> BOUNDS = IndexOutOfBoundsException.class;

    private int wrong;

    void due(String what, long want, long got) {
        if (got != want) {
            wrong++;
            System.out.println(what + " answered " + got + ", due is " + want);
        }
    }

    void due(String what, boolean want, boolean got) {
        due(what, want ? 1 : 0, got ? 1 : 0);
    }

    void throwing(String what, Class<? extends RuntimeException> want, Runnable call) {
        Class<?> got = null;
        try {
            call.run();
        } catch (RuntimeException e) {
            got = e.getClass();
        }
        if (got != want) {
            wrong++;
            System.out.println(what + " threw " + got + ", due is " + want);
        }
    }

    void end() {
        System.out.println(wrong == 0 ? "all answers are as due" : wrong + " answers are not as due");
        if (wrong != 0) {
            System.exit(1);
        }
    }

    /** What recordClip feeds as a clip's frame: never black, and another one for each clip and frame. */
    static int frameOf(int clip, int frame) {
        return 1000 * (clip + 1) + frame;
    }

    /** Records a clip with the first recorder until it is ready: its start. Takes n + 2 rounds. */
    static int recordClip(PlayoutStation x, int clip, int n) {
        int start = x.record(0, clip, n);
        for (int piece = 0; piece < n; piece++) {
            x.round();
            for (int f = 0; f < 5; f++) {
                x.feed(0, f, frameOf(clip, 5 * piece + f));
            }
        }
        x.rounds(2);
        return start;
    }

    /** A station with one ready clip. */
    static PlayoutStation withClip(int clip, int n) {
        PlayoutStation x = new PlayoutStation();
        recordClip(x, clip, n);
        return x;
    }

    /** The time of frame f in the round that comes so many rounds behind this one. */
    static int time(PlayoutStation x, int roundsAhead, int f) {
        return 5 * (x.many(0) + roundsAhead) + f;
    }
}
