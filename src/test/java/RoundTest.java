/** Promises 8 to 10, 15 and 19: round, rounds, shown, load, many. */
public final class RoundTest {
    private static final Check check = new Check();

    public static void main(String[] args) {
        roundTellsWhatWasMoved();
        roundsGoByOneByOne();
        roundsThrow();
        framesAreShownAtTheirTimes();
        shownThrows();
        loadsAreCounted();
        aPieceIsALoadOfEachEventThatShowsIt();
        loadThrows();
        manyTells();
        check.end();
    }

    private static void roundTellsWhatWasMoved() {
        PlayoutStation x = new PlayoutStation();
        x.record(0, 0, 2);
        int[] written = {0, 0, 2, 2, 0};
        for (int want : written) {
            check.due("piece and copy", want, x.round());
        }
        int t = Check.time(x, 3, 3);
        check.due("event", 0, x.event(0, 0, 0, 1, 8, t));
        check.due("event", 0, x.event(0, 1, 0, 0, 9, -1));
        check.due("event", 0, x.event(2, 0, 0, 4, 6, t));
        int[] fetched = {0, 0, 1 + 2, 1, 1, 1, 0};
        for (int want : fetched) {
            check.due("fetched", want, x.round());
        }
        check.due("all were shown", 0, x.events(0));
    }

    private static void roundsGoByOneByOne() {
        PlayoutStation x = new PlayoutStation();
        check.due("none", 0, x.rounds(0));
        check.due("the round", 0, x.many(0));
        x.record(0, 0, 30);
        x.record(1, 1, 10);
        check.due("60 rounds", 2 * 40, x.rounds(60));
        check.due("the round", 60, x.many(0));
        check.due("ready", 2, x.clip(0, 0));
        check.due("one", 0, x.rounds(1));
        check.due("event", 0, x.event(0, 0, 0, 0, 150, Check.time(x, 2, 0)));
        check.due("30 pieces", 30, x.rounds(60));
        check.due("the round", 121, x.many(0));
    }

    private static void roundsThrow() {
        PlayoutStation x = new PlayoutStation();
        int[] wrong = {-1, 61, Integer.MIN_VALUE, Integer.MAX_VALUE};
        for (int n : wrong) {
            check.throwing("rounds", Check.ARGUMENT, () -> x.rounds(n));
        }
        check.due("no round went by", 0, x.many(0));
    }

    private static void framesAreShownAtTheirTimes() {
        PlayoutStation x = new PlayoutStation();
        Check.recordClip(x, 0, 4);
        Check.recordClip(x, 1, 2);
        int t = Check.time(x, 2, 3);
        int[] due = new int[60];
        int base = 5 * x.many(0);
        check.due("event", 0, x.event(2, 0, 0, 2, 17, t));
        check.due("event", 0, x.event(2, 1, 1, 9, 10, -1));
        check.due("event", 0, x.event(2, 2, 1, 0, 7, t + 20));
        for (int k = 2; k < 17; k++) {
            due[t - base + k - 2] = Check.frameOf(0, k);
        }
        due[t - base + 15] = Check.frameOf(1, 9);
        for (int k = 0; k < 7; k++) {
            due[t - base + 20 + k] = Check.frameOf(1, k);
        }
        for (int i = 0; i < due.length; i++) {
            check.due("time " + (base + i), due[i], x.shown(2, i % 5));
            check.due("another channel", 0, x.shown(1, i % 5));
            if (i % 5 == 4) {
                x.round();
            }
        }
    }

    private static void shownThrows() {
        PlayoutStation x = new PlayoutStation();
        check.throwing("shown", Check.NO_SUCH, () -> x.shown(-1, 0));
        check.throwing("shown", Check.NO_SUCH, () -> x.shown(4, 5));
        check.throwing("shown", Check.BOUNDS, () -> x.shown(3, 5));
        check.throwing("shown", Check.BOUNDS, () -> x.shown(0, -1));
    }

    private static void loadsAreCounted() {
        PlayoutStation x = new PlayoutStation();
        x.record(0, 0, 7);
        for (int d = 0; d < 6; d++) {
            for (int t = 0; t <= 60; t++) {
                int piece = t - 2;
                boolean writes = piece >= 0 && piece < 7 && (piece % 6 == d || (piece + 1) % 6 == d);
                check.due("load of " + d + " in " + t, writes ? 1 : 0, x.load(d, t));
            }
        }
        x.rounds(3);
        check.due("in this round", 1, x.load(1, 0));
        check.due("in this round", 1, x.load(2, 0));
        check.due("in this round", 0, x.load(0, 0));
        x.rounds(6);
        check.due("the event ends 60 rounds ahead", 0, x.event(0, 0, 0, 4, 35, Check.time(x, 60, 0) - 31));
        // Frame 4 is shown as the last one of a round, frame 5 as the first one of the next.
        for (int piece = 0; piece < 7; piece++) {
            check.due("piece " + piece + " is fetched", 1, x.load(piece % 6, 52 + piece));
            check.due("no load of its copy's disk", 0, x.load((piece + 1) % 6, 52 + piece));
        }
    }

    private static void aPieceIsALoadOfEachEventThatShowsIt() {
        PlayoutStation x = Check.withClip(0, 1);
        int t = Check.time(x, 2, 0);
        check.due("event", 0, x.event(0, 0, 0, 0, 1, t));
        check.due("event", 0, x.event(0, 1, 0, 0, 1, -1));
        check.due("event", 0, x.event(1, 0, 0, 3, 5, t + 3));
        check.due("three fetches of one piece", 3, x.load(0, 1));
        check.due("no load of the copy's disk", 0, x.load(1, 1));
        x.fail(0);
        check.due("the load of a failed disk", 3, x.load(0, 1));
        check.due("no load of the copy's disk", 0, x.load(1, 1));
        x.round();
        check.due("in this round", 3, x.load(0, 0));
        check.due("three are moved", 3, x.round());
        check.due("gone by", 0, x.load(0, 0));
    }

    private static void loadThrows() {
        PlayoutStation x = new PlayoutStation();
        check.throwing("load", Check.NO_SUCH, () -> x.load(-1, 0));
        check.throwing("load", Check.NO_SUCH, () -> x.load(6, 61));
        check.throwing("load", Check.BOUNDS, () -> x.load(5, 61));
        check.throwing("load", Check.BOUNDS, () -> x.load(0, -1));
        check.due("the last round", 0, x.load(5, 60));
    }

    private static void manyTells() {
        PlayoutStation x = new PlayoutStation();
        x.round();
        x.rounds(4);
        check.due("the round", 5, x.many(0));
        check.due("missed", 0, x.many(1));
        check.due("restored", 0, x.many(2));
        check.throwing("many", Check.BOUNDS, () -> x.many(3));
        check.throwing("many", Check.BOUNDS, () -> x.many(-1));
    }
}
