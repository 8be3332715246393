/** The edges of what the terms say a round does: reading, writing, restoring, and the counts of moves. */
public final class RoundEdgesTest {
    private static final Check check = new Check();

    public static void main(String[] args) {
        aFailedDisksPiecesAreReadFromTheNext();
        nothingIsWrittenToAFailedDisk();
        theOtherDiskMovesLessThanEight();
        writingIsAMoveOfTheNewDisk();
        readingIsAMoveOfTheNewDisk();
        eightAreRestoredAtMost();
        restoredByClipsThenByPieces();
        aNewDiskThatLacksNothingWorks();
        whatWasNeverWrittenIsNotLacked();
        whatWasWrittenWhileItHadFailedIsLacked();
        whatIsDeletedIsNotLacked();
        nothingIsRestoredToAFailedDisk();
        restoredOnesAreNotCountedAsMoved();
        roundsAreTheSameAsSoManyTimesRound();
        check.end();
    }

    private static void disk(String what, PlayoutStation x, int disk, int state, int has) {
        check.due(what + ": state", state, x.disk(disk, 0));
        check.due(what + ": pieces", has, x.disk(disk, 2));
    }

    private static PlayoutStation blankClip(int n) {
        PlayoutStation x = new PlayoutStation();
        check.due("start", 0, x.record(0, 0, n));
        x.rounds(n + 2);
        return x;
    }

    /** Two clips of 30 seconds from disk 0 on, the one with the greater number by the first recorder. */
    private static PlayoutStation twoLongClips() {
        PlayoutStation x = new PlayoutStation();
        check.due("start", 0, x.record(0, 1, 30));
        check.due("start", 0, x.record(1, 0, 30));
        x.rounds(32);
        return x;
    }

    private static void failAndReplace(PlayoutStation x, int disk) {
        x.fail(disk);
        check.due("replace", disk, x.replace());
    }

    // "is read from its disk, or, if that has failed or lacks it, its copy is"

    private static void aFailedDisksPiecesAreReadFromTheNext() {
        for (int d = 0; d < 6; d++) {
            PlayoutStation x = Check.withClip(0, 7);
            x.fail(d);
            check.due("event", 0, x.event(0, 0, 0, 0, 35, Check.time(x, 2, 0)));
            check.due("seven pieces", 0, x.round());
            for (int k = 0; k < 35; k += 5) {
                check.due("one piece", 1, x.round());
                check.due("first frame", Check.frameOf(0, k), x.shown(0, 0));
                check.due("last frame", Check.frameOf(0, k + 4), x.shown(0, 4));
            }
            check.due("none is missed", 0, x.many(1));
            check.due("none is missed", 0, x.about(0, 0, 5));
        }
    }

    // "is written where it and its copy lie, if these disks have not failed"

    private static void nothingIsWrittenToAFailedDisk() {
        int[][] moved = {{1, 2, 2, 2, 2, 1}, {1, 1, 2, 2, 2, 2}, {2, 2, 2, 2, 1, 1}};
        int[] failed = {0, 1, 5};
        for (int i = 0; i < failed.length; i++) {
            PlayoutStation x = new PlayoutStation();
            x.fail(failed[i]);
            check.due("start", 0, x.record(0, 0, 6));
            x.rounds(2);
            for (int want : moved[i]) {
                check.due("moved", want, x.round());
            }
            disk("failed", x, failed[i], 1, 0);
            check.due("ready", 2, x.clip(0, 0));
        }
    }

    // "one is, if its other disk has it, and both disks have moved less than 8 pieces in this round
    // (reading, writing and restoring: each is one move of each disk); one that can't be is passed"

    /** Disk 5 reads so many pieces in the round in which disk 4 is new: four for disk 4, the others of its own. */
    private static PlayoutStation diskFiveReads(int pieces) {
        PlayoutStation x = blankClip(30);
        for (int c = 0; c < 4; c++) {
            check.due("a piece of disk 4", 0, x.event(c, 0, 0, 20, 21, Check.time(x, 2, 0)));
            if (c < pieces - 4) {
                check.due("a piece of disk 5", 0, x.event(c, 1, 0, 25, 26, -1));
            }
        }
        x.round();
        failAndReplace(x, 4);
        check.due("fetched", pieces, x.round());
        return x;
    }

    private static void theOtherDiskMovesLessThanEight() {
        // Five of the ten come from disk 3; as many from disk 5 as it has moves left; eight in all at most.
        disk("disk 5 moved 8", diskFiveReads(8), 4, 2, 5);
        disk("disk 5 moved 7", diskFiveReads(7), 4, 2, 6);
        disk("disk 5 moved 6", diskFiveReads(6), 4, 2, 7);
        disk("disk 5 moved 5", diskFiveReads(5), 4, 2, 8);
        disk("disk 5 moved 4", diskFiveReads(4), 4, 2, 8);
        check.due("restored", 5, diskFiveReads(8).many(2));
        PlayoutStation x = diskFiveReads(8);
        x.round();
        disk("what was passed comes a round later", x, 4, 0, 10);
    }

    private static void writingIsAMoveOfTheNewDisk() {
        for (int recorders = 0; recorders <= 2; recorders++) {
            PlayoutStation x = blankClip(30);
            for (int r = 0; r < recorders; r++) {
                check.due("start", 0, x.record(r, 1 + r, 4));
            }
            x.rounds(5);
            failAndReplace(x, 4);
            check.due("copies to disk 4, pieces to disk 3", 2 * recorders, x.round());
            disk("written and restored", x, 4, 2, 8);
            check.due("restored", 8 - recorders, x.many(2));
            x.round();
            disk("all", x, 4, 0, 10 + recorders);
        }
    }

    /** Disk 4 was new a round ago; in the next round, four channels fetch a piece that lies on it. */
    private static PlayoutStation readBehindTheFirstEight(int clip, int piece) {
        PlayoutStation x = twoLongClips();
        for (int c = 0; c < 4; c++) {
            check.due("event", 0, x.event(c, 0, clip, 5 * piece, 5 * piece + 1, Check.time(x, 3, 0)));
        }
        x.round();
        failAndReplace(x, 4);
        check.due("aside", 0, x.round());
        disk("the first eight", x, 4, 2, 8);
        check.due("fetched", 4, x.round());
        return x;
    }

    private static void readingIsAMoveOfTheNewDisk() {
        disk("it has the piece, and reads it four times", readBehindTheFirstEight(0, 4), 4, 2, 12);
        disk("it lacks the piece, and disk 5 reads it", readBehindTheFirstEight(1, 28), 4, 2, 16);
    }

    private static void eightAreRestoredAtMost() {
        PlayoutStation x = blankClip(24);
        failAndReplace(x, 0);
        disk("new", x, 0, 2, 0);
        x.round();
        disk("all eight", x, 0, 0, 8);
        check.due("restored", 8, x.many(2));

        x = blankClip(25);
        failAndReplace(x, 0);
        x.round();
        disk("eight of nine", x, 0, 2, 8);
        check.throwing("it is new", Check.STATE, failing(x, 0));
        x.round();
        disk("all nine", x, 0, 0, 9);
        check.due("restored", 9, x.many(2));
        x.round();
        check.due("nothing more", 9, x.many(2));
    }

    private static Runnable failing(PlayoutStation x, int disk) {
        return () -> x.fail(disk);
    }

    // "the pieces and copies that it lacks are RESTORED, by clips, then by pieces"

    private static void restoredByClipsThenByPieces() {
        // Pieces 3, 4, 9, 10, 15, 16, 21 and 22 of clip 0 come first; 27 and 28, and then clip 1, come a round later.
        disk("the eighth", readBehindTheFirstEight(0, 22), 4, 2, 12);
        disk("the tenth", readBehindTheFirstEight(0, 28), 4, 2, 16);
        disk("the twelfth", readBehindTheFirstEight(1, 4), 4, 2, 16);
    }

    // "A disk that lacks nothing any more works."

    private static void aNewDiskThatLacksNothingWorks() {
        PlayoutStation x = new PlayoutStation();
        for (int d = 0; d < 6; d++) {
            failAndReplace(x, d);
            disk("an empty one is new", x, d, 2, 0);
            x.round();
            disk("an empty one works", x, d, 0, 0);
        }
        check.due("restored", 0, x.many(2));
    }

    // "(A piece that was never written to any disk is lacked by none.)"

    private static void whatWasNeverWrittenIsNotLacked() {
        PlayoutStation x = new PlayoutStation();
        check.due("start", 0, x.record(0, 0, 30));
        x.rounds(2);
        failAndReplace(x, 0);
        check.due("piece 0 is written", 2, x.round());
        disk("it has what was written", x, 0, 0, 1);
        check.due("restored", 0, x.many(2));
        failAndReplace(x, 0);
        check.due("piece 1 is written elsewhere", 2, x.round());
        disk("piece 0 is back, the others are yet to be written", x, 0, 0, 1);
        check.due("restored", 1, x.many(2));
    }

    private static void whatWasWrittenWhileItHadFailedIsLacked() {
        PlayoutStation x = new PlayoutStation();
        x.fail(5);
        check.due("start", 0, x.record(0, 0, 6));
        x.rounds(8);
        disk("failed", x, 5, 1, 0);
        check.due("replace", 5, x.replace());
        disk("new", x, 5, 2, 0);
        check.due("aside", 0, x.round());
        disk("a copy from disk 4, a piece from disk 0", x, 5, 0, 2);
        check.due("restored", 2, x.many(2));
    }

    private static void whatIsDeletedIsNotLacked() {
        for (int d = 0; d < 6; d++) {
            PlayoutStation x = blankClip(30);
            failAndReplace(x, d);
            x.round();
            disk("eight of ten", x, d, 2, 8);
            check.due("delete", true, x.delete(0));
            disk("nothing is left", x, d, 2, 0);
            x.round();
            disk("nothing is lacked", x, d, 0, 0);
            check.due("restored", 8, x.many(2));
        }
    }

    private static void nothingIsRestoredToAFailedDisk() {
        PlayoutStation x = blankClip(3);
        x.fail(1);
        x.rounds(10);
        disk("failed", x, 1, 1, 0);
        check.due("restored", 0, x.many(2));
    }

    // Promise 8: "how many pieces were moved by fetching and writing (each piece and each copy that is written is one; .. restored ones aside)"

    private static void restoredOnesAreNotCountedAsMoved() {
        PlayoutStation x = blankClip(6);
        check.due("event", 0, x.event(0, 0, 0, 0, 1, Check.time(x, 3, 0)));
        check.due("record", 0, x.record(0, 1, 1));
        x.rounds(2);
        failAndReplace(x, 3);
        check.due("one is fetched, two are written", 3, x.round());
        check.due("two are restored", 2, x.many(2));
    }

    // Promise 9: "So many rounds, one by one (0 .. 60): how many pieces in all."

    private static PlayoutStation restoring() {
        PlayoutStation x = twoLongClips();
        check.due("record", 0, x.record(0, 2, 9));
        check.due("event", 0, x.event(0, 0, 0, 0, 150, Check.time(x, 4, 3)));
        check.due("event", 0, x.event(0, 1, 1, 70, 130, -1));
        failAndReplace(x, 5);
        return x;
    }

    private static void roundsAreTheSameAsSoManyTimesRound() {
        int[] numbers = {0, 1, 2, 7, 60};
        for (int n : numbers) {
            PlayoutStation atOnce = restoring();
            PlayoutStation oneByOne = restoring();
            int moved = 0;
            for (int i = 0; i < n; i++) {
                moved += oneByOne.round();
            }
            check.due("moved in " + n, moved, atOnce.rounds(n));
            check.same("behind " + n, Look.after(0, oneByOne), Look.after(0, atOnce));
        }
        check.due("none", 0, restoring().rounds(0));
        check.due("30 and 12 fetched, 18 written", 60, restoring().rounds(60));
    }
}
