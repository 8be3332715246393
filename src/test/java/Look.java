import java.util.ArrayList;
import java.util.List;

/** All that a station answers, so that two stations can be compared. */
final class Look {
    // Near rounds, and the last ones: with the calls before, an object stays below its 512 calls.
    private static final int[] LOAD_ROUNDS = {0, 1, 2, 3, 4, 5, 6, 7, 8, 9, 57, 58, 59, 60};

    private final PlayoutStation x;
    private final List<String> answers = new ArrayList<>();

    private Look(PlayoutStation x) {
        this.x = x;
    }

    /** The answers of a station when so many rounds have gone by. It is used up then: its recorders are stopped. */
    static List<String> after(int rounds, PlayoutStation x) {
        Look look = new Look(x);
        look.note("rounds", x.rounds(rounds));
        for (int what = 0; what < 3; what++) {
            look.note("many " + what, x.many(what));
        }
        look.disks();
        look.clips();
        for (int c = 0; c < 4; c++) {
            look.channel(c);
        }
        for (int r = 0; r < 2; r++) {
            look.recorder(r);
        }
        return look.answers;
    }

    private void note(String what, int answer) {
        answers.add(what + " = " + answer);
    }

    private void disks() {
        for (int d = 0; d < 6; d++) {
            for (int what = 0; what < 3; what++) {
                note("disk " + d + " " + what, x.disk(d, what));
            }
            for (int t : LOAD_ROUNDS) {
                note("load " + d + " " + t, x.load(d, t));
            }
        }
    }

    private void clips() {
        for (int c = 0; c < 16; c++) {
            for (int what = 0; what < 3; what++) {
                note("clip " + c + " " + what, x.clip(c, what));
            }
        }
    }

    private void channel(int c) {
        note("events " + c, x.events(c));
        for (int f = 0; f < 5; f++) {
            note("shown " + c + " " + f, x.shown(c, f));
        }
        for (int k = 0; k < x.events(c); k++) {
            for (int what = 0; what < 6; what++) {
                note("about " + c + " " + k + " " + what, x.about(c, k, what));
            }
        }
    }

    private void recorder(int r) {
        String feeding = "is fed";
        try {
            x.feed(r, 0, 1);
        } catch (IllegalStateException e) {
            feeding = "is not fed";
        }
        answers.add("recorder " + r + " " + feeding);
        String stopping;
        try {
            stopping = "stops at " + x.stop(r);
        } catch (IllegalStateException e) {
            stopping = "is not busy";
        }
        answers.add("recorder " + r + " " + stopping);
    }
}
