/**
 * What each promise says about numbers that are too small or too large and states in which a call can't be, and of
 * the terms: "A call that throws changes nothing; where several exceptions that a call names fit, it is the one that
 * it names first."
 */
public final class ThrowEdgesTest {
    private static final int LEAST = Integer.MIN_VALUE;
    private static final int GREATEST = Integer.MAX_VALUE;
    private static final Check check = new Check();

    public static void main(String[] args) {
        recordsNumbers();
        feedsAndStopsNumbers();
        eventsNumbers();
        eventsFramesAndTime();
        removesNumbers();
        swapsNumbers();
        roundsNumber();
        showsNumbers();
        aboutsNumbers();
        clipsAndDeletesNumbers();
        disksNumbers();
        manysNumber();
        emptyAndShortLists();
        aBusyRecorderDoesNotRecord();
        onlyARecordedSecondIsFed();
        onlyABusyRecorderStops();
        oneDiskFailsAtATime();
        onlyAFailedDiskIsReplaced();
        theOneNamedFirst();
        check.end();
    }

    /** One clip of six seconds, and nothing going on. */
    private static PlayoutStation idle() {
        return Check.withClip(0, 6);
    }

    /** Both recorders record, each channel has three events, and a disk has failed. */
    private static PlayoutStation busy() {
        PlayoutStation x = Check.withClip(0, 6);
        x.record(0, 1, 9);
        x.record(1, 15, 9);
        for (int c = 0; c < 4; c++) {
            check.due("busy: first", 0, x.event(c, 0, 0, 0, 5, Check.time(x, 4, 0)));
            check.due("busy: second", 0, x.event(c, 1, 0, 5, 7, -1));
            check.due("busy: third", 0, x.event(c, 2, 0, 2, 9, -1));
        }
        x.round();
        x.fail(3);
        return x;
    }

    private static void recordsNumbers() {
        check.range("record: recorder", 0, 1, Check.NO_SUCH, ThrowEdgesTest::idle, (x, n) -> x.record(n, 1, 1));
        check.range("record: clip", 0, 15, Check.NO_SUCH, ThrowEdgesTest::idle, (x, n) -> x.record(0, n, 1));
        check.range("record: seconds", 1, 30, Check.ARGUMENT, ThrowEdgesTest::idle, (x, n) -> x.record(0, 1, n));
    }

    private static void feedsAndStopsNumbers() {
        check.range("feed: recorder", 0, 1, Check.NO_SUCH, ThrowEdgesTest::busy, (x, n) -> x.feed(n, 0, 7));
        check.range("feed: frame", 0, 4, Check.BOUNDS, ThrowEdgesTest::busy, (x, n) -> x.feed(1, n, 7));
        check.range("stop: recorder", 0, 1, Check.NO_SUCH, ThrowEdgesTest::busy, (x, n) -> x.stop(n));
    }

    private static void eventsNumbers() {
        check.range("event: channel", 0, 3, Check.NO_SUCH, ThrowEdgesTest::busy, (x, n) -> x.event(n, 3, 0, 0, 1, -1));
        check.range("event: number", 0, 3, Check.NO_SUCH, ThrowEdgesTest::busy, (x, n) -> x.event(0, n, 0, 0, 1, -1));
        check.range("event: clip", 0, 15, Check.NO_SUCH, ThrowEdgesTest::busy, (x, n) -> x.event(0, 3, n, 0, 1, -1));
    }

    private static void eventsFramesAndTime() {
        check.range("event: in", 0, 4, Check.ARGUMENT, ThrowEdgesTest::busy, (x, n) -> x.event(0, 3, 0, n, 5, -1));
        check.range("event: time", -1, 1000000, Check.ARGUMENT, ThrowEdgesTest::busy, (x, n) -> x.event(0, 3, 0, 0, 1, n));
        int[] notAbove = {3, 2, 0, -1, LEAST};
        for (int out : notAbove) {
            check.refusing("event: out " + out, Check.ARGUMENT, ThrowEdgesTest::busy, x -> x.event(0, 3, 0, 3, out, -1));
        }
        check.due("event: out just above", 0, busy().event(0, 3, 0, 3, 4, -1));
        check.due("event: the greatest out", -1, busy().event(0, 3, 0, 3, GREATEST, -1));
        check.refusing("event: the greatest in", Check.ARGUMENT, ThrowEdgesTest::busy, x -> x.event(0, 3, 0, GREATEST, LEAST, -1));
    }

    private static void removesNumbers() {
        check.range("remove: channel", 0, 3, Check.NO_SUCH, ThrowEdgesTest::busy, (x, n) -> x.remove(n, 2));
        check.range("remove: number", 0, 2, Check.NO_SUCH, ThrowEdgesTest::busy, (x, n) -> x.remove(3, n));
    }

    private static void swapsNumbers() {
        check.range("swap: channel", 0, 3, Check.NO_SUCH, ThrowEdgesTest::busy, (x, n) -> x.swap(n, 1));
        check.range("swap: number", 0, 1, Check.NO_SUCH, ThrowEdgesTest::busy, (x, n) -> x.swap(3, n));
    }

    private static void roundsNumber() {
        check.range("rounds", 0, 60, Check.ARGUMENT, ThrowEdgesTest::busy, (x, n) -> x.rounds(n));
    }

    private static void showsNumbers() {
        check.range("shown: channel", 0, 3, Check.NO_SUCH, ThrowEdgesTest::busy, (x, n) -> x.shown(n, 0));
        check.range("shown: frame", 0, 4, Check.BOUNDS, ThrowEdgesTest::busy, (x, n) -> x.shown(0, n));
    }

    private static void aboutsNumbers() {
        check.range("about: channel", 0, 3, Check.NO_SUCH, ThrowEdgesTest::busy, (x, n) -> x.about(n, 2, 0));
        check.range("about: number", 0, 2, Check.NO_SUCH, ThrowEdgesTest::busy, (x, n) -> x.about(3, n, 0));
        check.range("about: what", 0, 5, Check.BOUNDS, ThrowEdgesTest::busy, (x, n) -> x.about(3, 2, n));
        check.range("events: channel", 0, 3, Check.NO_SUCH, ThrowEdgesTest::busy, (x, n) -> x.events(n));
    }

    private static void clipsAndDeletesNumbers() {
        check.range("clip: clip", 0, 15, Check.NO_SUCH, ThrowEdgesTest::busy, (x, n) -> x.clip(n, 0));
        check.range("clip: what", 0, 2, Check.BOUNDS, ThrowEdgesTest::busy, (x, n) -> x.clip(0, n));
        check.range("clip: what, not there", 0, 2, Check.BOUNDS, ThrowEdgesTest::busy, (x, n) -> x.clip(9, n));
        check.range("delete: clip", 0, 15, Check.NO_SUCH, ThrowEdgesTest::idle, (x, n) -> x.delete(n));
    }

    private static void disksNumbers() {
        check.range("load: disk", 0, 5, Check.NO_SUCH, ThrowEdgesTest::busy, (x, n) -> x.load(n, 0));
        check.range("load: round", 0, 60, Check.BOUNDS, ThrowEdgesTest::busy, (x, n) -> x.load(5, n));
        check.range("disk: disk", 0, 5, Check.NO_SUCH, ThrowEdgesTest::busy, (x, n) -> x.disk(n, 0));
        check.range("disk: what", 0, 2, Check.BOUNDS, ThrowEdgesTest::busy, (x, n) -> x.disk(5, n));
        check.range("fail: disk", 0, 5, Check.NO_SUCH, ThrowEdgesTest::idle, (x, n) -> x.fail(n));
    }

    private static void manysNumber() {
        check.range("many: what", 0, 2, Check.BOUNDS, ThrowEdgesTest::busy, (x, n) -> x.many(n));
    }

    private static void emptyAndShortLists() {
        check.refusing("remove from an empty list", Check.NO_SUCH, ThrowEdgesTest::idle, x -> x.remove(0, 0));
        check.refusing("swap in an empty list", Check.NO_SUCH, ThrowEdgesTest::idle, x -> x.swap(0, 0));
        check.refusing("swap in an empty list", Check.NO_SUCH, ThrowEdgesTest::idle, x -> x.swap(0, -1));
        check.refusing("about an empty list", Check.NO_SUCH, ThrowEdgesTest::idle, x -> x.about(0, 0, 0));
        check.refusing("event behind nothing", Check.NO_SUCH, ThrowEdgesTest::idle, x -> x.event(0, 1, 0, 0, 1, 100));
        PlayoutStation x = idle();
        check.due("event into an empty list", 0, x.event(0, 0, 0, 0, 1, 100));
        check.throwing("swap the only one", Check.NO_SUCH, () -> x.swap(0, 0));
        check.throwing("remove behind the only one", Check.NO_SUCH, () -> x.remove(0, 1));
        check.due("remove the only one", 0, x.remove(0, 0));
        check.throwing("remove it again", Check.NO_SUCH, () -> x.remove(0, 0));
    }

    /** A recording of three seconds, taken in round 0, when so many rounds have gone by. */
    private static PlayoutStation recording(int rounds) {
        PlayoutStation x = new PlayoutStation();
        x.record(0, 4, 3);
        x.rounds(rounds);
        return x;
    }

    private static void aBusyRecorderDoesNotRecord() {
        for (int rounds = 0; rounds <= 3; rounds++) {
            int r = rounds;
            check.refusing("busy in round " + r, Check.STATE, () -> recording(r), x -> x.record(0, 5, 1));
            check.due("the other recorder in round " + r, 0, recording(r).record(1, 5, 1));
        }
        check.due("no more busy in round 4", 0, recording(4).record(0, 5, 1));
        PlayoutStation x = recording(1);
        x.stop(0);
        check.due("no more busy when it was stopped", 0, x.record(0, 4, 30));
    }

    private static void onlyARecordedSecondIsFed() {
        check.refusing("feed a new object", Check.STATE, PlayoutStation::new, x -> x.feed(0, 0, 7));
        for (int rounds = 1; rounds <= 3; rounds++) {
            int r = rounds;
            check.throwing("feed in round " + r, null, () -> recording(r).feed(0, 0, 7));
            check.refusing("the other recorder", Check.STATE, () -> recording(r), x -> x.feed(1, 0, 7));
        }
        int[] tooEarlyAndTooLate = {0, 4, 5, 6};
        for (int r : tooEarlyAndTooLate) {
            check.refusing("feed in round " + r, Check.STATE, () -> recording(r), x -> x.feed(0, 0, 7));
        }
        check.refusing("feed what was stopped", Check.STATE, () -> stopped(2), x -> x.feed(0, 0, 7));
    }

    private static PlayoutStation stopped(int rounds) {
        PlayoutStation x = recording(rounds);
        x.stop(0);
        return x;
    }

    private static void onlyABusyRecorderStops() {
        check.refusing("stop a new object", Check.STATE, PlayoutStation::new, x -> x.stop(0));
        int[] kept = {0, 0, 1, 2};
        for (int r = 0; r < kept.length; r++) {
            check.due("stop in round " + r, kept[r], recording(r).stop(0));
            int rounds = r;
            check.refusing("stop twice", Check.STATE, () -> stopped(rounds), x -> x.stop(0));
            check.refusing("stop the other one", Check.STATE, () -> recording(rounds), x -> x.stop(1));
        }
        for (int r = 4; r <= 6; r++) {
            int rounds = r;
            check.refusing("stop in round " + r, Check.STATE, () -> recording(rounds), x -> x.stop(0));
        }
    }

    private static PlayoutStation failed(int disk) {
        PlayoutStation x = idle();
        x.fail(disk);
        return x;
    }

    private static PlayoutStation replaced(int disk) {
        PlayoutStation x = failed(disk);
        x.replace();
        return x;
    }

    private static void oneDiskFailsAtATime() {
        for (int disk = 0; disk < 6; disk += 5) {
            int broken = disk;
            for (int d = 0; d < 6; d++) {
                int other = d;
                check.refusing("one has failed", Check.STATE, () -> failed(broken), x -> x.fail(other));
                check.refusing("one is new", Check.STATE, () -> replaced(broken), x -> x.fail(other));
                PlayoutStation x = replaced(broken);
                x.round();
                check.throwing("all work again", null, () -> x.fail(other));
                check.due("that one has failed", 1, x.disk(other, 0));
            }
        }
    }

    private static void onlyAFailedDiskIsReplaced() {
        check.refusing("none has failed", Check.STATE, ThrowEdgesTest::idle, x -> x.replace());
        for (int d = 0; d < 6; d++) {
            int broken = d;
            check.due("replace", d, failed(d).replace());
            check.refusing("it is new", Check.STATE, () -> replaced(broken), x -> x.replace());
        }
    }

    private static void theOneNamedFirst() {
        check.refusing("record: clip, busy, seconds", Check.NO_SUCH, ThrowEdgesTest::busy, x -> x.record(0, 16, 0));
        check.refusing("record: clip, busy", Check.NO_SUCH, ThrowEdgesTest::busy, x -> x.record(0, -1, 1));
        check.refusing("record: recorder, seconds", Check.NO_SUCH, ThrowEdgesTest::busy, x -> x.record(2, 2, 31));
        check.refusing("record: busy, seconds", Check.STATE, ThrowEdgesTest::busy, x -> x.record(0, 2, 31));
        check.refusing("record: busy, and the clip is there", Check.STATE, ThrowEdgesTest::busy, x -> x.record(0, 0, 1));
        check.refusing("record: seconds, and the clip is there", Check.ARGUMENT, ThrowEdgesTest::idle, x -> x.record(0, 0, 0));
        check.refusing("feed: recorder, frame", Check.NO_SUCH, ThrowEdgesTest::busy, x -> x.feed(2, 5, 7));
        check.refusing("feed: none is recorded, frame", Check.STATE, ThrowEdgesTest::idle, x -> x.feed(0, 5, 7));
        check.refusing("event: channel, frames", Check.NO_SUCH, ThrowEdgesTest::busy, x -> x.event(4, 0, 0, 1, 1, -1));
        check.refusing("event: number, time", Check.NO_SUCH, ThrowEdgesTest::busy, x -> x.event(0, 4, 0, 0, 1, -2));
        check.refusing("event: clip, frames", Check.NO_SUCH, ThrowEdgesTest::busy, x -> x.event(0, 0, 16, -1, 1, -1));
        check.refusing("event: number, and no such frames", Check.NO_SUCH, ThrowEdgesTest::busy, x -> x.event(0, 4, 0, 0, 31, -1));
        check.refusing("event: time, and no such frames", Check.ARGUMENT, ThrowEdgesTest::busy, x -> x.event(0, 3, 0, 0, 31, -2));
        check.refusing("event: frames of a clip that is not there", Check.ARGUMENT, ThrowEdgesTest::busy, x -> x.event(0, 3, 9, 0, 0, -1));
        check.refusing("shown: channel, frame", Check.NO_SUCH, ThrowEdgesTest::busy, x -> x.shown(4, 5));
        check.refusing("about: channel, what", Check.NO_SUCH, ThrowEdgesTest::busy, x -> x.about(4, 0, 6));
        check.refusing("about: number, what", Check.NO_SUCH, ThrowEdgesTest::busy, x -> x.about(0, 3, 6));
        check.refusing("clip: clip, what", Check.NO_SUCH, ThrowEdgesTest::busy, x -> x.clip(16, 3));
        check.refusing("load: disk, round", Check.NO_SUCH, ThrowEdgesTest::busy, x -> x.load(6, 61));
        check.refusing("disk: disk, what", Check.NO_SUCH, ThrowEdgesTest::busy, x -> x.disk(6, 3));
        check.refusing("fail: disk, one has failed", Check.NO_SUCH, ThrowEdgesTest::busy, x -> x.fail(6));
    }
}
