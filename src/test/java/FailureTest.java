/** Promises 16 to 19, and what a round does with disks that don't work: disk, fail, replace, many. */
public final class FailureTest {
    private static final Check check = new Check();

    public static void main(String[] args) {
        diskTells();
        diskThrows();
        failThrows();
        replaceThrows();
        copiesAreReadWhenADiskHasFailed();
        nothingIsWrittenToAFailedDisk();
        aNewDiskGetsBackWhatItHad();
        restoringStopsAtEightMoves();
        restoringCountsTheOtherMovesOfBothDisks();
        aNewDiskIsWrittenAndReadLikeOthers();
        aNewDiskThatLacksNothingWorksBehindARound();
        aDeletedClipIsNotRestored();
        check.end();
    }

    private static void state(String what, PlayoutStation x, int disk, int state, int room, int has) {
        check.due(what + ": state", state, x.disk(disk, 0));
        check.due(what + ": room", room, x.disk(disk, 1));
        check.due(what + ": pieces", has, x.disk(disk, 2));
    }

    private static void diskTells() {
        PlayoutStation x = new PlayoutStation();
        x.record(0, 0, 2);
        state("will lie there", x, 1, 0, 22, 0);
        x.rounds(3);
        state("the first piece", x, 0, 0, 23, 1);
        state("its copy", x, 1, 0, 22, 1);
        state("nothing yet", x, 2, 0, 23, 0);
        x.round();
        state("the second piece", x, 1, 0, 22, 2);
        state("its copy", x, 2, 0, 23, 1);
        x.fail(1);
        state("failed", x, 1, 1, 22, 0);
        state("another one", x, 0, 0, 23, 1);
        check.due("replace", 1, x.replace());
        state("new", x, 1, 2, 22, 0);
        x.round();
        state("restored", x, 1, 0, 22, 2);
        check.due("restored", 2, x.many(2));
    }

    private static void diskThrows() {
        PlayoutStation x = new PlayoutStation();
        check.throwing("disk", Check.NO_SUCH, () -> x.disk(-1, 0));
        check.throwing("disk", Check.NO_SUCH, () -> x.disk(6, 3));
        check.throwing("disk", Check.BOUNDS, () -> x.disk(5, 3));
        check.throwing("disk", Check.BOUNDS, () -> x.disk(0, -1));
    }

    private static void failThrows() {
        PlayoutStation x = Check.withClip(0, 1);
        check.throwing("fail", Check.NO_SUCH, () -> x.fail(-1));
        check.throwing("fail", Check.NO_SUCH, () -> x.fail(6));
        x.fail(0);
        check.throwing("it has failed", Check.STATE, () -> x.fail(0));
        check.throwing("another one has failed", Check.STATE, () -> x.fail(5));
        check.throwing("no such disk, before", Check.NO_SUCH, () -> x.fail(6));
        x.rounds(5);
        check.throwing("still failed", Check.STATE, () -> x.fail(1));
        x.replace();
        check.throwing("it is new", Check.STATE, () -> x.fail(0));
        check.throwing("another one is new", Check.STATE, () -> x.fail(5));
        state("not failed", x, 5, 0, 24, 0);
        x.round();
        x.fail(5);
        state("failed", x, 5, 1, 24, 0);
    }

    private static void replaceThrows() {
        PlayoutStation x = Check.withClip(0, 1);
        check.throwing("none has failed", Check.STATE, () -> x.replace());
        x.fail(1);
        check.due("replace", 1, x.replace());
        check.throwing("it is new", Check.STATE, () -> x.replace());
        x.round();
        check.throwing("it works", Check.STATE, () -> x.replace());
        check.due("it works", 0, x.disk(1, 0));
    }

    private static void copiesAreReadWhenADiskHasFailed() {
        PlayoutStation x = Check.withClip(0, 6);
        x.fail(2);
        int t = Check.time(x, 2, 0);
        check.due("event", 0, x.event(0, 0, 0, 0, 30, t));
        x.rounds(2);
        for (int k = 0; k < 30; k++) {
            check.due("frame " + k, Check.frameOf(0, k), x.shown(0, k % 5));
            if (k % 5 == 4) {
                check.due("one piece a round", k < 25 ? 1 : 0, x.round());
            }
        }
        check.due("missed", 0, x.many(1));
        check.due("restored", 0, x.many(2));
    }

    private static void nothingIsWrittenToAFailedDisk() {
        PlayoutStation x = new PlayoutStation();
        x.fail(1);
        check.due("a failed disk has room too", 0, x.record(0, 0, 3));
        int[] moved = {0, 0, 1, 1, 2};
        for (int want : moved) {
            check.due("moved", want, x.round());
        }
        check.due("ready", 2, x.clip(0, 0));
        state("failed", x, 1, 1, 22, 0);
        state("piece", x, 0, 0, 23, 1);
        state("copy and piece", x, 2, 0, 22, 2);
        x.replace();
        check.due("what was never there is restored, aside", 0, x.round());
        state("works", x, 1, 0, 22, 2);
        check.due("restored", 2, x.many(2));
    }

    private static void aNewDiskGetsBackWhatItHad() {
        PlayoutStation x = Check.withClip(0, 6);
        x.fail(3);
        x.replace();
        x.round();
        x.fail(2);
        int t = Check.time(x, 2, 0);
        check.due("event", 0, x.event(0, 0, 0, 10, 15, t));
        x.rounds(2);
        for (int f = 0; f < 5; f++) {
            check.due("from the copy that was restored", Check.frameOf(0, 10 + f), x.shown(0, f));
        }
    }

    private static void restoringStopsAtEightMoves() {
        PlayoutStation x = new PlayoutStation();
        x.record(0, 0, 30);
        x.record(1, 1, 30);
        x.rounds(33);
        x.fail(4);
        x.replace();
        int[] has = {8, 16, 20, 20};
        for (int i = 0; i < has.length; i++) {
            check.due("aside", 0, x.round());
            check.due("pieces", has[i], x.disk(4, 2));
            check.due("restored", has[i], x.many(2));
            check.due("state", has[i] == 20 ? 0 : 2, x.disk(4, 0));
        }
    }

    private static void restoringCountsTheOtherMovesOfBothDisks() {
        PlayoutStation x = new PlayoutStation();
        x.record(0, 0, 30);
        x.record(1, 1, 30);
        x.rounds(33);
        int t = Check.time(x, 2, 0);
        for (int c = 0; c < 4; c++) {
            check.due("from disk 4, or, for want of it, from disk 5", 0, x.event(c, 0, 0, 20, 21, t));
            check.due("from disk 5", 0, x.event(c, 1, 0, 25, 26, -1));
        }
        x.round();
        x.fail(4);
        x.replace();
        check.due("fetched", 8, x.round());
        // Disk 5 has moved 8: only what lies on disk 3 and as a copy on 4 comes, of both clips.
        check.due("from disk 3 alone", 8, x.disk(4, 2));
        check.due("new", 2, x.disk(4, 0));
        x.round();
        check.due("eight more", 16, x.disk(4, 2));
        x.round();
        check.due("all", 20, x.disk(4, 2));
        check.due("works", 0, x.disk(4, 0));
    }

    private static void aNewDiskIsWrittenAndReadLikeOthers() {
        PlayoutStation x = new PlayoutStation();
        x.record(0, 0, 30);
        x.rounds(4);
        x.fail(2);
        x.replace();
        check.due("piece 2 is written to it", 2, x.round());
        check.due("that one, and the copy of piece 1", 2, x.disk(2, 2));
        check.due("restored", 1, x.many(2));
        check.due("works", 0, x.disk(2, 0));
        x.rounds(28);
        check.due("ready", 2, x.clip(0, 0));
        check.due("pieces", 10, x.disk(2, 2));
    }

    private static void aNewDiskThatLacksNothingWorksBehindARound() {
        PlayoutStation x = new PlayoutStation();
        x.fail(0);
        x.replace();
        check.due("new", 2, x.disk(0, 0));
        check.throwing("new", Check.STATE, () -> x.fail(1));
        x.record(0, 0, 3);
        x.round();
        check.due("a piece that was never written is not lacked", 0, x.disk(0, 0));
        check.due("restored", 0, x.many(2));
    }

    private static void aDeletedClipIsNotRestored() {
        PlayoutStation x = new PlayoutStation();
        Check.recordClip(x, 0, 3);
        Check.recordClip(x, 1, 3);
        x.fail(1);
        check.due("delete", true, x.delete(0));
        x.replace();
        x.round();
        check.due("only the other clip's", 2, x.disk(1, 2));
        check.due("works", 0, x.disk(1, 0));
        check.due("restored", 2, x.many(2));
    }
}
