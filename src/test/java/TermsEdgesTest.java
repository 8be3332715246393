/** The edges of what the terms say of time, frames, disks, clips, recorders, channels, fetching and loads. */
public final class TermsEdgesTest {
    private static final Check check = new Check();

    public static void main(String[] args) {
        theRoundIsZeroAtFirst();
        aRoundHasFiveFrames();
        aFrameIsAnyInt();
        aDiskHasRoomForTwentyFour();
        piecesGoAroundTheDisks();
        aCopyOfTheLastDiskLiesOnTheFirst();
        theLastClipIsLikeTheOthers();
        aRecordingGoesThroughItsRounds(1);
        aRecordingGoesThroughItsRounds(30);
        whatIsNotFedIsBlack();
        theClipIsReadyFromTheNextRoundOn();
        anEventShowsItsFramesAndNoOther();
        anEventBeginsWhereTheOneBeforeEnds();
        anEventGoesWhenItHasEnded();
        theFirstOneThatIsLeftHasATime();
        aPieceIsFetchedTheRoundBefore();
        aPieceInTwoRoundsIsFetchedOnce();
        fetchesAreNoLoadOfTheCopysDisk();
        check.end();
    }

    // "TIME goes in ROUNDS, 0, 1, .., THE ROUND is R, 0 at first; each has 5 FRAMES; the frame f of round r has the time 5 * r + f."

    private static void theRoundIsZeroAtFirst() {
        PlayoutStation x = new PlayoutStation();
        check.due("at first", 0, x.many(0));
        x.round();
        check.due("behind one round", 1, x.many(0));
    }

    private static void aRoundHasFiveFrames() {
        for (int f = 0; f < 5; f++) {
            PlayoutStation x = Check.withClip(0, 1);
            check.due("one frame", 0, x.event(0, 0, 0, 2, 3, Check.time(x, 2, f)));
            for (int rounds = 0; rounds < 4; rounds++) {
                for (int g = 0; g < 5; g++) {
                    boolean there = rounds == 2 && g == f;
                    check.due("round " + rounds + " frame " + g, there ? Check.frameOf(0, 2) : 0, x.shown(0, g));
                }
                x.round();
            }
        }
    }

    // "A frame is an int, 0 is BLACK."

    private static void aFrameIsAnyInt() {
        int[] frames = {Integer.MIN_VALUE, -1, 0, 1, Integer.MAX_VALUE};
        PlayoutStation x = new PlayoutStation();
        x.record(1, 15, 1);
        x.round();
        for (int f = 0; f < 5; f++) {
            x.feed(1, f, frames[f]);
        }
        x.rounds(2);
        check.due("event", 0, x.event(3, 0, 15, 0, 5, Check.time(x, 2, 0)));
        x.rounds(2);
        for (int f = 0; f < 5; f++) {
            check.due("frame " + f, frames[f], x.shown(3, f));
        }
    }

    // "DISKS are 0 .. 5, with room for 24 PIECES each"

    private static void rooms(String what, PlayoutStation x, int... want) {
        for (int d = 0; d < 6; d++) {
            check.due(what + ": room on " + d, want[d], x.disk(d, 1));
        }
    }

    private static void pieces(String what, PlayoutStation x, int... want) {
        for (int d = 0; d < 6; d++) {
            check.due(what + ": pieces on " + d, want[d], x.disk(d, 2));
        }
    }

    private static void aDiskHasRoomForTwentyFour() {
        PlayoutStation x = new PlayoutStation();
        rooms("empty", x, 24, 24, 24, 24, 24, 24);
        check.due("30 seconds", 0, x.record(0, 0, 30));
        check.due("12 seconds", 0, x.record(1, 1, 12));
        rooms("just for 30 seconds", x, 10, 10, 10, 10, 10, 10);
        x.rounds(32);
        check.due("30 seconds more", 0, x.record(0, 2, 30));
        rooms("full", x, 0, 0, 0, 0, 0, 0);
        x.rounds(33);
        pieces("full", x, 24, 24, 24, 24, 24, 24);
        check.due("no room for one second", -2, x.record(0, 4, 1));

        x = new PlayoutStation();
        check.due("30 seconds", 0, x.record(0, 0, 30));
        check.due("13 seconds", 0, x.record(1, 1, 13));
        rooms("one less on two disks", x, 9, 9, 10, 10, 10, 10);
        x.rounds(32);
        check.due("30 seconds need 10 on each", -2, x.record(0, 2, 30));
        check.due("29 seconds need only 9 on their start's disk and the one before", 1, x.record(0, 2, 29));
        rooms("full", x, 0, 0, 0, 0, 0, 0);
    }

    // "piece j lies on disk (s + j) modulo 6, its COPY on the next one (modulo 6)"

    private static void piecesGoAroundTheDisks() {
        PlayoutStation x = new PlayoutStation();
        check.due("start", 0, x.record(0, 0, 7));
        rooms("seven seconds", x, 24 - 3, 24 - 3, 22, 22, 22, 22);
        x.rounds(2);
        int[][] written = {
            {1, 1, 0, 0, 0, 0}, {1, 2, 1, 0, 0, 0}, {1, 2, 2, 1, 0, 0}, {1, 2, 2, 2, 1, 0},
            {1, 2, 2, 2, 2, 1}, {2, 2, 2, 2, 2, 2}, {3, 3, 2, 2, 2, 2},
        };
        for (int j = 0; j < 7; j++) {
            check.due("piece and copy", 2, x.round());
            pieces("behind piece " + j, x, written[j]);
        }
    }

    /** In the round in which a recording's first second would be written, disks 1, 3 and 4 have all they can do. */
    private static PlayoutStation onlyDisksFiveAndZeroAreFree() {
        PlayoutStation x = Check.withClip(0, 6);
        int[] busy = {1, 3, 4};
        for (int c = 0; c < 4; c++) {
            for (int i = 0; i < busy.length; i++) {
                int in = 5 * busy[i];
                check.due("one frame", 0, x.event(c, i, 0, in, in + 1, Check.time(x, 3, i)));
            }
        }
        return x;
    }

    private static void aCopyOfTheLastDiskLiesOnTheFirst() {
        PlayoutStation x = onlyDisksFiveAndZeroAreFree();
        check.due("start", 5, x.record(0, 1, 2));
        check.due("start", 5, x.clip(1, 2));
        rooms("pieces on 5 and 0, copies on 0 and 1", x, 20, 21, 22, 22, 22, 21);
        int[][] loads = {{1, 4, 0, 4, 4, 1}, {1, 1, 0, 0, 0, 0}};
        for (int i = 0; i < 2; i++) {
            for (int d = 0; d < 6; d++) {
                check.due("load of " + d, loads[i][d], x.load(d, 2 + i));
            }
        }
        x.rounds(3);
        pieces("the first piece", x, 3, 2, 2, 2, 2, 3);
        x.round();
        pieces("the second piece", x, 4, 3, 2, 2, 2, 3);
    }

    // "CLIPS are 0 .. 15"

    private static void theLastClipIsLikeTheOthers() {
        PlayoutStation x = new PlayoutStation();
        check.due("start", 0, x.record(1, 15, 6));
        rooms("recorded", x, 22, 22, 22, 22, 22, 22);
        for (int d = 0; d < 6; d++) {
            check.due("its last piece and copy", d == 0 || d == 5 ? 1 : 0, x.load(d, 7));
        }
        check.due("six pieces and copies", 12, x.rounds(8));
        pieces("ready", x, 2, 2, 2, 2, 2, 2);
        x.fail(5);
        pieces("a disk has failed", x, 2, 2, 2, 2, 2, 0);
        check.due("replace", 5, x.replace());
        x.round();
        pieces("restored", x, 2, 2, 2, 2, 2, 2);
        check.due("delete", true, x.delete(15));
        pieces("deleted", x, 0, 0, 0, 0, 0, 0);
        rooms("deleted", x, 24, 24, 24, 24, 24, 24);
    }

    // "A recording of n seconds, taken in round Q, goes through rounds Q + 1 .. Q + n: what is FED in round Q + 1 + j is piece j,
    // which is WRITTEN, and its copy, in the round behind that."

    private static void aRecordingGoesThroughItsRounds(int n) {
        PlayoutStation x = new PlayoutStation();
        x.rounds(3);
        check.due("record", 0, x.record(0, 0, n));
        check.throwing("not fed in the round in which it is taken", Check.STATE, () -> x.feed(0, 0, 1));
        check.due("nothing to write", 0, x.round());
        for (int j = 0; j < n; j++) {
            x.feed(0, 0, 100 + j);
            x.feed(0, 4, 200 + j);
            check.due("what was fed a round before is written", j == 0 ? 0 : 2, x.round());
        }
        check.throwing("nothing more is fed", Check.STATE, () -> x.feed(0, 0, 1));
        check.due("recorded", 1, x.clip(0, 0));
        check.due("the last piece", 2, x.round());
        check.due("ready", 2, x.clip(0, 0));
        check.due("nothing more is written", 0, x.round());
        check.due("event", 0, x.event(0, 0, 0, 0, 5 * n, Check.time(x, 2, 0)));
        x.rounds(2);
        for (int j = 0; j < n; j++) {
            check.due("first frame of " + j, 100 + j, x.shown(0, 0));
            check.due("last frame of " + j, 200 + j, x.shown(0, 4));
            x.round();
        }
    }

    // "(what is not fed is black)"

    private static void whatIsNotFedIsBlack() {
        PlayoutStation x = Check.withClip(0, 2);
        check.due("delete", true, x.delete(0));
        check.due("record", 0, x.record(0, 0, 2));
        x.round();
        x.feed(0, 3, 77);
        x.rounds(3);
        check.due("event", 0, x.event(0, 0, 0, 0, 10, Check.time(x, 2, 0)));
        x.rounds(2);
        for (int k = 0; k < 10; k++) {
            check.due("frame " + k, k == 3 ? 77 : 0, x.shown(0, k % 5));
            if (k == 4) {
                x.round();
            }
        }
    }

    // "When its last piece is written, the clip is ready (from the next round on)."

    private static void theClipIsReadyFromTheNextRoundOn() {
        PlayoutStation x = new PlayoutStation();
        x.record(0, 0, 1);
        int[] states = {1, 1, 1, 2, 2};
        for (int state : states) {
            check.due("round " + x.many(0), state, x.clip(0, 0));
            check.due("an event in round " + x.many(0), state == 2 ? 0 : -1, x.event(0, 0, 0, 0, 1, 100 - x.many(0)));
            x.round();
        }
    }

    // "It shows frame in + k at its begin and k, for in + k below out."

    private static void shownFrom(PlayoutStation x, int channel, int... want) {
        for (int i = 0; i < want.length; i++) {
            int due = want[i] < 0 ? 0 : Check.frameOf(0, want[i]);
            check.due("frame " + i + " from here on", due, x.shown(channel, i % 5));
            if (i % 5 == 4) {
                x.round();
            }
        }
    }

    private static void anEventShowsItsFramesAndNoOther() {
        PlayoutStation x = Check.withClip(0, 2);
        int t = Check.time(x, 2, 0);
        check.due("the first frame", 0, x.event(0, 0, 0, 0, 1, t + 1));
        check.due("the last frame", 0, x.event(0, 1, 0, 9, 10, t + 3));
        check.due("all frames", 0, x.event(0, 2, 0, 0, 10, t + 5));
        check.due("some frames", 0, x.event(0, 3, 0, 4, 7, t + 16));
        x.rounds(2);
        shownFrom(x, 0, -1, 0, -1, 9, -1, 0, 1, 2, 3, 4, 5, 6, 7, 8, 9, -1, 4, 5, 6, -1, -1, -1, -1, -1, -1);
    }

    // "that it begins at a time, or where the one before ends"

    private static void anEventBeginsWhereTheOneBeforeEnds() {
        PlayoutStation x = Check.withClip(0, 2);
        int t = Check.time(x, 2, 4);
        check.due("at a time", 0, x.event(0, 0, 0, 0, 2, t));
        check.due("behind it", 0, x.event(0, 1, 0, 5, 6, -1));
        check.due("behind that", 0, x.event(0, 2, 0, 7, 9, -1));
        check.due("at a time, a frame later", 0, x.event(0, 3, 0, 3, 4, t + 6));
        check.due("behind that", 0, x.event(0, 4, 0, 1, 2, -1));
        int[] begins = {t, t + 2, t + 3, t + 6, t + 7};
        for (int k = 0; k < 5; k++) {
            check.due("begin of " + k, begins[k], x.about(0, k, 4));
        }
        x.rounds(2);
        shownFrom(x, 0, -1, -1, -1, -1, 0, 1, 5, 7, 8, -1, 3, 1, -1, -1, -1);
    }

    // "When R has grown, events whose end is not above 5 * R go from the list's begin"

    private static void anEventGoesWhenItHasEnded() {
        for (int length = 4; length <= 6; length++) {
            PlayoutStation x = Check.withClip(0, 2);
            check.due("event", 0, x.event(0, 0, 0, 0, length, Check.time(x, 2, 0)));
            check.due("event of a later round", 0, x.event(0, 1, 0, 0, 1, Check.time(x, 7, 0)));
            x.rounds(2);
            check.due("it is shown", 2, x.events(0));
            x.round();
            check.due("its end is " + (length - 5) + " above 5 * R", length > 5 ? 2 : 1, x.events(0));
            x.round();
            check.due("it has ended", 1, x.events(0));
            check.due("the other one is the first", Check.time(x, 3, 0), x.about(0, 0, 4));
            x.rounds(3);
            check.due("the other one is shown", 1, x.events(0));
            x.round();
            check.due("all have ended", 0, x.events(0));
        }
    }

    // "and the first one that is left has the time at which it begins"

    private static void theFirstOneThatIsLeftHasATime() {
        PlayoutStation x = Check.withClip(0, 2);
        int t = Check.time(x, 2, 0);
        check.due("first", 0, x.event(0, 0, 0, 0, 3, t));
        check.due("second", 0, x.event(0, 1, 0, 0, 2, -1));
        check.due("third", 0, x.event(0, 2, 0, 5, 6, -1));
        check.due("fourth", 0, x.event(0, 3, 0, 5, 6, -1));
        x.rounds(2);
        check.due("none has gone", -1, x.about(0, 1, 3));
        x.round();
        check.due("two have gone", 2, x.events(0));
        check.due("time", t + 5, x.about(0, 0, 3));
        check.due("begin", t + 5, x.about(0, 0, 4));
        check.due("only the first one has it", -1, x.about(0, 1, 3));
        check.due("where the one before ends", t + 6, x.about(0, 1, 4));
    }

    // "A piece of which an event shows a frame is FETCHED in the round before that in which the event shows the first one of it."

    private static void loads(String what, PlayoutStation x, int disk, int... want) {
        for (int t = 0; t < want.length; t++) {
            check.due(what + ": load of disk " + disk + " in " + t, want[t], x.load(disk, t));
        }
    }

    private static void aPieceIsFetchedTheRoundBefore() {
        PlayoutStation x = Check.withClip(0, 3);
        check.due("from a round's first frame on", 0, x.event(0, 0, 0, 0, 15, Check.time(x, 3, 0)));
        loads("first", x, 0, 0, 0, 1, 0, 0, 0);
        loads("first", x, 1, 0, 0, 0, 1, 0, 0);
        loads("first", x, 2, 0, 0, 0, 0, 1, 0);

        x = Check.withClip(0, 3);
        check.due("from a round's last frame on", 0, x.event(0, 0, 0, 0, 15, Check.time(x, 3, 4)));
        loads("last", x, 0, 0, 0, 1, 0, 0, 0);
        loads("last", x, 1, 0, 0, 0, 1, 0, 0);
        loads("last", x, 2, 0, 0, 0, 0, 1, 0);

        x = Check.withClip(0, 3);
        check.due("from a piece's last frame on", 0, x.event(0, 0, 0, 4, 11, Check.time(x, 3, 0)));
        loads("a frame of a piece", x, 0, 0, 0, 1, 0, 0, 0);
        loads("a frame of a piece", x, 1, 0, 0, 1, 0, 0, 0);
        loads("a frame of a piece", x, 2, 0, 0, 0, 1, 0, 0);

        x = Check.withClip(0, 3);
        check.due("a piece whose frame is not shown", 0, x.event(0, 0, 0, 5, 10, Check.time(x, 3, 0)));
        loads("not shown", x, 0, 0, 0, 0, 0, 0, 0);
        loads("not shown", x, 1, 0, 0, 1, 0, 0, 0);
        loads("not shown", x, 2, 0, 0, 0, 0, 0, 0);
    }

    private static void aPieceInTwoRoundsIsFetchedOnce() {
        PlayoutStation x = Check.withClip(0, 1);
        check.due("event", 0, x.event(0, 0, 0, 0, 5, Check.time(x, 2, 3)));
        int[] fetched = {0, 1, 0, 0};
        for (int want : fetched) {
            check.due("fetched", want, x.round());
        }
    }

    // "how many pieces are fetched in it, by all events, that lie on it (not as copies), and how many pieces and copies are written to it"

    private static void fetchesAreNoLoadOfTheCopysDisk() {
        PlayoutStation x = Check.withClip(0, 6);
        check.due("the piece on the last disk", 0, x.event(0, 0, 0, 25, 26, Check.time(x, 3, 0)));
        check.due("once more", 0, x.event(0, 1, 0, 26, 27, -1));
        check.due("in another channel", 0, x.event(3, 0, 0, 29, 30, Check.time(x, 3, 4)));
        check.due("a recording", 0, x.record(0, 1, 1));
        int[] want = {1, 1, 0, 0, 0, 3};
        for (int d = 0; d < 6; d++) {
            check.due("load of " + d, want[d], x.load(d, 2));
            check.due("a round before", 0, x.load(d, 1));
            check.due("a round behind", 0, x.load(d, 3));
        }
    }
}
