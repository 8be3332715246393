/** Promises 1 to 4, 13 and 14: a new object, record, feed, stop, clip, delete. */
public final class RecordingTest {
    private static final Check check = new Check();

    public static void main(String[] args) {
        aNewObject();
        recordTakesTheLeastStartWithRoom();
        recordIsRefusedWhenNoStartHasRoom();
        recordTakesTheLeastStartTheLoadsAllow();
        recordTellsWhyNot();
        recordThrows();
        aRecorderIsBusyUntilItsLastPieceIsFed();
        feedPutsFramesInPlace();
        feedThrows();
        stopKeepsWhatWasFedInRoundsBefore();
        stopWithNothingFed();
        stopThrows();
        aStoppedRecorderRecordsAnewInTheSameRound();
        clipTells();
        clipThrows();
        deleteTakesOnlyReadyClipsThatNoEventShows();
        check.end();
    }

    private static void aNewObject() {
        PlayoutStation x = new PlayoutStation();
        for (int d = 0; d < 6; d++) {
            check.due("new: disk works", 0, x.disk(d, 0));
            check.due("new: room", 24, x.disk(d, 1));
            check.due("new: pieces", 0, x.disk(d, 2));
            for (int t = 0; t <= 60; t++) {
                check.due("new: load", 0, x.load(d, t));
            }
        }
        for (int c = 0; c < 16; c++) {
            for (int what = 0; what < 3; what++) {
                check.due("new: clip", 0, x.clip(c, what));
            }
        }
        for (int c = 0; c < 4; c++) {
            check.due("new: events", 0, x.events(c));
            for (int f = 0; f < 5; f++) {
                check.due("new: shown", 0, x.shown(c, f));
            }
        }
        for (int what = 0; what < 3; what++) {
            check.due("new: many", 0, x.many(what));
        }
        check.due("new: round", 0, x.round());
    }

    /** Both long clips take 20 places of each disk, so that there are 4 left on each. */
    private static PlayoutStation almostFull() {
        PlayoutStation x = new PlayoutStation();
        check.due("30 seconds", 0, x.record(0, 0, 30));
        check.due("30 seconds more", 0, x.record(1, 1, 30));
        x.rounds(33);
        return x;
    }

    private static void recordTakesTheLeastStartWithRoom() {
        PlayoutStation x = almostFull();
        for (int i = 0; i < 4; i++) {
            check.due("one second on disk 0", 0, Check.recordClip(x, 2 + i, 1));
        }
        check.due("no room on 0", 0, x.disk(0, 1));
        check.due("no room on 1", 0, x.disk(1, 1));
        check.due("room on 2", 4, x.disk(2, 1));
        check.due("4 seconds need disks 2 to 6", -2, x.record(0, 6, 4));
        check.due("3 seconds", 2, x.record(0, 6, 3));
        check.due("room on 2", 3, x.disk(2, 1));
        check.due("room on 3", 2, x.disk(3, 1));
        check.due("room on 4", 2, x.disk(4, 1));
        check.due("room on 5", 3, x.disk(5, 1));
        check.due("room on 0", 0, x.disk(0, 1));
    }

    private static void recordIsRefusedWhenNoStartHasRoom() {
        PlayoutStation x = almostFull();
        int clip = 2;
        for (int start = 0; start < 6; start += 2) {
            for (int i = 0; i < 4; i++) {
                check.due("one second", start, Check.recordClip(x, clip, 1));
                clip++;
            }
        }
        check.due("all disks are full", -2, x.record(0, 14, 1));
        check.due("a refused clip is not there", 0, x.clip(14, 0));
        check.due("a refused recording leaves its recorder free", -2, x.record(0, 14, 1));
        check.due("delete", true, x.delete(13));
        check.due("there is room again", 4, x.record(0, 14, 1));
    }

    /** Channels 0 to n - 1 each fetch one frame of these pieces of clip 0 in the round behind the next. */
    private static PlayoutStation busyInTwoRounds(int channels, int... pieces) {
        PlayoutStation x = Check.withClip(0, 6);
        for (int c = 0; c < channels; c++) {
            for (int i = 0; i < pieces.length; i++) {
                int in = 5 * pieces[i];
                check.due("one frame", 0, x.event(c, i, 0, in, in + 1, Check.time(x, 3, i)));
            }
        }
        return x;
    }

    private static void recordTakesTheLeastStartTheLoadsAllow() {
        check.due("a load of 4", 0, busyInTwoRounds(3, 0).record(0, 1, 1));
        check.due("not on disk 0, and no copy there", 1, busyInTwoRounds(4, 0).record(0, 1, 1));
        check.due("not on disk 1, and no copy there", 2, busyInTwoRounds(4, 1).record(0, 1, 1));
        check.due("only on 4 and 5, or 5 and 0", 4, busyInTwoRounds(4, 1, 3).record(0, 1, 1));
        check.due("only on 5 and 0", 5, busyInTwoRounds(4, 1, 3, 4).record(0, 1, 1));
        PlayoutStation x = busyInTwoRounds(4, 0);
        x.round();
        check.due("the recording comes a round too late for that", 0, x.record(0, 1, 1));
        x = new PlayoutStation();
        check.due("both recorders write to the same disks", 0, x.record(0, 0, 30));
        check.due("both recorders write to the same disks", 0, x.record(1, 1, 30));
        check.due("load", 2, x.load(1, 3));
    }

    private static void recordTellsWhyNot() {
        PlayoutStation x = busyInTwoRounds(4, 0, 2, 4);
        check.due("no loads allow it", -3, x.record(0, 1, 1));
        check.due("the clip is there, before all", -1, x.record(0, 0, 1));
        check.due("a refused clip is not there", 0, x.clip(1, 0));
        check.due("no load of a refused one", 0, x.load(1, 2));
        x = new PlayoutStation();
        x.record(0, 4, 2);
        check.due("a recorded clip is there", -1, x.record(1, 4, 2));
    }

    private static void recordThrows() {
        PlayoutStation x = new PlayoutStation();
        int[] noRecorders = {-1, 2, Integer.MIN_VALUE, Integer.MAX_VALUE};
        for (int recorder : noRecorders) {
            check.throwing("record", Check.NO_SUCH, () -> x.record(recorder, 0, 0));
        }
        int[] noClips = {-1, 16, Integer.MIN_VALUE, Integer.MAX_VALUE};
        for (int clip : noClips) {
            check.throwing("record", Check.NO_SUCH, () -> x.record(0, clip, 0));
        }
        int[] noSeconds = {0, 31, -1, Integer.MIN_VALUE, Integer.MAX_VALUE};
        for (int n : noSeconds) {
            check.throwing("record", Check.ARGUMENT, () -> x.record(0, 0, n));
        }
        x.record(0, 0, 1);
        check.throwing("busy, before the number of seconds", Check.STATE, () -> x.record(0, 1, 31));
        check.throwing("busy, before the clip that is there", Check.STATE, () -> x.record(0, 0, 1));
        check.throwing("no clip, before busy", Check.NO_SUCH, () -> x.record(0, 16, 1));
        check.throwing("seconds, before the clip that is there", Check.ARGUMENT, () -> x.record(1, 0, 31));
        check.due("the other recorder is free", 0, x.record(1, 15, 30));
    }

    private static void aRecorderIsBusyUntilItsLastPieceIsFed() {
        PlayoutStation x = new PlayoutStation();
        x.record(0, 0, 2);
        x.rounds(2);
        check.throwing("the last piece is fed in this round", Check.STATE, () -> x.record(0, 1, 1));
        x.round();
        check.due("the last piece is only to be written", 0, x.record(0, 1, 1));
        check.due("both clips are recorded", 1, x.clip(0, 0));
        check.due("the last piece is written", 2, x.round());
        check.due("ready", 2, x.clip(0, 0));
        check.due("recorded", 1, x.clip(1, 0));
        check.due("fed in this round", 0, x.round());
        check.due("written in the one behind", 2, x.round());
        check.due("ready", 2, x.clip(1, 0));
    }

    private static int[] firstFrames(PlayoutStation x, int clip, int n) {
        check.due("event", 0, x.event(3, 0, clip, 0, n, Check.time(x, 2, 0)));
        x.rounds(2);
        int[] frames = new int[n];
        for (int i = 0; i < n; i++) {
            frames[i] = x.shown(3, i % 5);
            if (i % 5 == 4) {
                x.round();
            }
        }
        return frames;
    }

    private static void feedPutsFramesInPlace() {
        PlayoutStation x = new PlayoutStation();
        x.record(0, 0, 3);
        x.record(1, 1, 1);
        x.round();
        x.feed(0, 4, 14);
        x.feed(0, 0, 9);
        x.feed(0, 0, -10);
        x.feed(1, 2, Integer.MAX_VALUE);
        x.rounds(2);
        x.feed(0, 1, Integer.MIN_VALUE);
        x.rounds(2);
        int[] want = {-10, 0, 0, 0, 14, 0, 0, 0, 0, 0, 0, Integer.MIN_VALUE, 0, 0, 0};
        int[] got = firstFrames(x, 0, 15);
        for (int i = 0; i < want.length; i++) {
            check.due("frame " + i, want[i], got[i]);
        }
        got = firstFrames(x, 1, 5);
        check.due("fed by the other recorder", Integer.MAX_VALUE, got[2]);
        check.due("not fed", 0, got[0]);
        x.delete(0);
        x.record(0, 0, 1);
        x.rounds(3);
        check.due("an older clip's frames are gone", 0, firstFrames(x, 0, 5)[0]);
    }

    private static void feedThrows() {
        PlayoutStation x = new PlayoutStation();
        check.throwing("feed", Check.NO_SUCH, () -> x.feed(2, 5, 1));
        check.throwing("feed", Check.NO_SUCH, () -> x.feed(-1, 0, 1));
        check.throwing("no recording, before the frame's number", Check.STATE, () -> x.feed(0, 5, 1));
        x.record(0, 0, 1);
        check.throwing("the recording begins in the next round", Check.STATE, () -> x.feed(0, 0, 1));
        x.round();
        check.throwing("feed", Check.BOUNDS, () -> x.feed(0, 5, 1));
        check.throwing("feed", Check.BOUNDS, () -> x.feed(0, -1, 1));
        check.throwing("the other recorder", Check.STATE, () -> x.feed(1, 0, 1));
        x.feed(0, 4, 1);
        x.round();
        check.throwing("the last second is gone", Check.STATE, () -> x.feed(0, 0, 1));
    }

    private static void stopKeepsWhatWasFedInRoundsBefore() {
        PlayoutStation x = new PlayoutStation();
        x.record(0, 3, 10);
        check.due("room on 2", 24 - 4, x.disk(2, 1));
        x.rounds(3);
        x.feed(0, 0, 7);
        check.due("two were fed before", 2, x.stop(0));
        check.due("seconds", 2, x.clip(3, 1));
        check.due("the second one is yet to be written", 1, x.clip(3, 0));
        check.due("room on 0", 23, x.disk(0, 1));
        check.due("room on 1", 22, x.disk(1, 1));
        check.due("room on 2", 23, x.disk(2, 1));
        check.due("room on 3", 24, x.disk(3, 1));
        check.due("load of this round", 1, x.load(2, 0));
        check.due("no load any more", 0, x.load(2, 1));
        check.throwing("nothing is recorded", Check.STATE, () -> x.feed(0, 0, 1));
        check.due("piece and copy", 2, x.round());
        check.due("ready", 2, x.clip(3, 0));
        check.due("nothing is left to write", 0, x.round());
        check.due("no frame 10", -1, x.event(0, 0, 3, 0, 11, Check.time(x, 2, 0)));
        check.due("frame 9", 0, x.event(0, 0, 3, 0, 10, Check.time(x, 2, 0)));
    }

    private static void stopWithNothingFed() {
        PlayoutStation x = new PlayoutStation();
        for (int rounds = 0; rounds < 2; rounds++) {
            x.record(1, 3, 10);
            x.rounds(rounds);
            check.due("nothing was fed", 0, x.stop(1));
            check.due("not there", 0, x.clip(3, 0));
            check.due("no seconds", 0, x.clip(3, 1));
            check.due("room", 24, x.disk(1, 1));
            check.due("load", 0, x.load(1, 2));
            check.due("nothing to write", 0, x.rounds(3));
        }
    }

    private static void stopThrows() {
        PlayoutStation x = new PlayoutStation();
        check.throwing("stop", Check.NO_SUCH, () -> x.stop(2));
        check.throwing("stop", Check.NO_SUCH, () -> x.stop(-1));
        check.throwing("stop", Check.STATE, () -> x.stop(0));
        x.record(0, 0, 2);
        x.rounds(3);
        check.throwing("all is fed, one is to be written", Check.STATE, () -> x.stop(0));
        check.due("seconds", 2, x.clip(0, 1));
        x.round();
        check.throwing("all is written", Check.STATE, () -> x.stop(0));
        x.record(0, 1, 2);
        x.rounds(2);
        check.due("the last one is fed in this round", 1, x.stop(0));
        check.throwing("stopped already", Check.STATE, () -> x.stop(0));
    }

    private static void aStoppedRecorderRecordsAnewInTheSameRound() {
        PlayoutStation x = new PlayoutStation();
        x.record(0, 0, 5);
        x.rounds(2);
        check.due("stop", 1, x.stop(0));
        check.due("record", 0, x.record(0, 1, 5));
        check.due("stop", 0, x.stop(0));
        check.due("record", 0, x.record(0, 1, 2));
        check.due("the first clip's piece is written", 2, x.round());
        check.due("ready", 2, x.clip(0, 0));
        check.due("recorded", 1, x.clip(1, 0));
        check.due("the other one's pieces", 4, x.rounds(3));
        check.due("ready", 2, x.clip(1, 0));
    }

    private static void clipTells() {
        PlayoutStation x = almostFull();
        for (int i = 0; i < 4; i++) {
            Check.recordClip(x, 2 + i, 1);
        }
        x.record(0, 15, 3);
        check.due("recorded", 1, x.clip(15, 0));
        check.due("will have", 3, x.clip(15, 1));
        check.due("start", 2, x.clip(15, 2));
        x.rounds(4);
        check.due("recorded, while the last piece is to be written", 1, x.clip(15, 0));
        x.round();
        check.due("ready", 2, x.clip(15, 0));
        check.due("has", 3, x.clip(15, 1));
        check.due("start", 2, x.clip(15, 2));
        x.delete(15);
        for (int what = 0; what < 3; what++) {
            check.due("of one that is not there", 0, x.clip(15, what));
        }
    }

    private static void clipThrows() {
        PlayoutStation x = new PlayoutStation();
        check.throwing("clip", Check.NO_SUCH, () -> x.clip(-1, 0));
        check.throwing("clip", Check.NO_SUCH, () -> x.clip(16, 3));
        check.throwing("clip", Check.BOUNDS, () -> x.clip(15, 3));
        check.throwing("clip", Check.BOUNDS, () -> x.clip(0, -1));
    }

    private static void deleteTakesOnlyReadyClipsThatNoEventShows() {
        PlayoutStation x = new PlayoutStation();
        check.throwing("delete", Check.NO_SUCH, () -> x.delete(-1));
        check.throwing("delete", Check.NO_SUCH, () -> x.delete(16));
        check.due("not there", false, x.delete(0));
        x.record(0, 0, 2);
        check.due("recorded", false, x.delete(0));
        x.rounds(3);
        check.due("yet to be written", false, x.delete(0));
        x.round();
        check.due("event", 0, x.event(3, 0, 0, 0, 1, Check.time(x, 2, 0)));
        check.due("an event shows it", false, x.delete(0));
        x.rounds(2);
        check.due("an event shows it in this round", false, x.delete(0));
        check.due("still ready", 2, x.clip(0, 0));
        x.round();
        check.due("pieces", 2, x.disk(1, 2));
        check.due("delete", true, x.delete(0));
        check.due("pieces", 0, x.disk(1, 2));
        check.due("room", 24, x.disk(1, 1));
        check.due("gone already", false, x.delete(0));
    }
}
