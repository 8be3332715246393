/** The edges that promises 2 to 7 and 10 to 19 name themselves, beside those of the terms and the exceptions. */
public final class PromiseEdgesTest {
    private static final Check check = new Check();

    public static void main(String[] args) {
        recordIsRefusedWhenTheClipIsThere();
        recordIsRefusedWithoutRoom();
        recordNeedsRoomOnTheLastDiskToo();
        recordIsRefusedByTheLoadsOfThoseWithRoom();
        recordLooksAtTheRoundsInWhichItWrites();
        recordAddsToWhatTheOtherRecorderWrites();
        feedTakesThePlaceOfWhatWasFed();
        stopKeepsTheSecondsFedBefore();
        stopGivesRoomAgain();
        stopTakesAClipAwayThatHasNone();
        eventComesBeforeTheOneWithItsNumber();
        removeAndSwapAtBothEnds();
        shownIsBlackWhereNoEventIs();
        aboutTellsTheTimeAsItWasTold();
        eventsCountsFromNoneToTwelve();
        clipTellsNothingOfOneThatIsNotThere();
        deleteRefuses();
        deleteGivesRoomAgain();
        loadReachesFromThisRoundToTheSixtieth();
        diskCountsWhatWillLieThere();
        failLosesAll();
        manyCounts();
        check.end();
    }

    private static void rooms(String what, PlayoutStation x, int... want) {
        for (int d = 0; d < 6; d++) {
            check.due(what + ": room on " + d, want[d], x.disk(d, 1));
        }
    }

    /** Frames of one piece are shown by so many channels, and fetched in the round that comes so many rounds behind this one. */
    private static void fetch(PlayoutStation x, int channels, int piece, int rounds) {
        for (int c = 0; c < channels; c++) {
            int time = x.events(c) == 0 ? Check.time(x, rounds + 1, 0) : -1;
            check.due("fetch", 0, x.event(c, x.events(c), 0, 5 * piece, 5 * piece + 1, time));
        }
    }

    // Promise 2: "its start, the least one for which there is room on all disks and no load of a round from R + 1 on would be above 4.
    // -1: the clip is there; -2: there is room for no start; -3: for none of those with room the loads allow it."

    private static PlayoutStation oneReadyOneRecorded() {
        PlayoutStation x = Check.withClip(0, 1);
        check.due("record", 0, x.record(0, 15, 2));
        return x;
    }

    private static void recordIsRefusedWhenTheClipIsThere() {
        check.refusing("ready", -1, PromiseEdgesTest::oneReadyOneRecorded, x -> x.record(1, 0, 1));
        check.refusing("recorded", -1, PromiseEdgesTest::oneReadyOneRecorded, x -> x.record(1, 15, 1));
        check.refusing("there is room for no start either", -1, PromiseEdgesTest::noRoomOnTwoDisks, x -> x.record(0, 1, 4));
        PlayoutStation x = oneReadyOneRecorded();
        x.delete(0);
        check.due("not there any more", 0, x.record(1, 0, 1));
    }

    /** Disks 0 and 1 are full, there is room for four on each of the others. */
    private static PlayoutStation noRoomOnTwoDisks() {
        PlayoutStation x = new PlayoutStation();
        x.record(0, 0, 30);
        x.record(1, 1, 30);
        x.rounds(32);
        for (int clip = 2; clip < 6; clip++) {
            check.due("start", 0, x.record(0, clip, 1));
            x.rounds(3);
        }
        rooms("two are full", x, 0, 0, 4, 4, 4, 4);
        return x;
    }

    private static void recordIsRefusedWithoutRoom() {
        check.due("two disks", 2, noRoomOnTwoDisks().record(0, 6, 1));
        check.due("four disks", 2, noRoomOnTwoDisks().record(0, 6, 3));
        check.refusing("five disks", -2, PromiseEdgesTest::noRoomOnTwoDisks, x -> x.record(0, 6, 4));
        check.refusing("all disks", -2, PromiseEdgesTest::noRoomOnTwoDisks, x -> x.record(1, 6, 30));
        PlayoutStation x = noRoomOnTwoDisks();
        check.due("delete", true, x.delete(5));
        check.due("room for one on disks 0 and 1", 0, x.record(0, 6, 1));
    }

    /** A second is recorded while these disks have all they can do in the round in which it is written. */
    private static int startBesides(PlayoutStation x, int clip, int... busy) {
        for (int disk : busy) {
            fetch(x, 4, disk, 2);
        }
        int start = x.record(0, clip, 1);
        x.rounds(4);
        return start;
    }

    private static void recordNeedsRoomOnTheLastDiskToo() {
        PlayoutStation x = new PlayoutStation();
        x.record(0, 0, 30);
        x.record(1, 1, 30);
        x.rounds(32);
        for (int i = 0; i < 2; i++) {
            check.due("disks 5 and 0", 5, startBesides(x, 2 + i, 1, 3, 4));
            check.due("disks 4 and 5", 4, startBesides(x, 4 + i, 1, 3));
        }
        rooms("the last one is full", x, 2, 4, 4, 4, 2, 0);
        check.due("all disks", -2, x.record(0, 15, 5));
        check.due("all but the last", 0, x.record(0, 15, 4));
    }

    private static PlayoutStation noRoomOnTwoDisksAndTwoAreBusy() {
        PlayoutStation x = noRoomOnTwoDisks();
        fetch(x, 4, 3, 2);
        fetch(x, 4, 4, 2);
        return x;
    }

    private static void recordIsRefusedByTheLoadsOfThoseWithRoom() {
        check.refusing("one second", -3, PromiseEdgesTest::noRoomOnTwoDisksAndTwoAreBusy, x -> x.record(0, 6, 1));
        check.refusing("two seconds", -3, PromiseEdgesTest::noRoomOnTwoDisksAndTwoAreBusy, x -> x.record(0, 6, 2));
        check.refusing("no room at all", -2, PromiseEdgesTest::noRoomOnTwoDisksAndTwoAreBusy, x -> x.record(0, 6, 4));
        check.refusing("it is there", -1, PromiseEdgesTest::noRoomOnTwoDisksAndTwoAreBusy, x -> x.record(0, 5, 1));
        PlayoutStation x = noRoomOnTwoDisksAndTwoAreBusy();
        x.round();
        check.due("a round later", 2, x.record(0, 6, 1));
        x = noRoomOnTwoDisks();
        fetch(x, 4, 3, 2);
        check.due("only disk 3 is busy", 4, x.record(0, 6, 1));
        x = noRoomOnTwoDisks();
        fetch(x, 4, 4, 2);
        check.due("only disk 4 is busy", 2, x.record(0, 6, 1));
    }

    /** The start of three seconds when so many channels fetch from a disk in one round. */
    private static int startBeside(int channels, int disk, int rounds) {
        PlayoutStation x = Check.withClip(0, 6);
        fetch(x, channels, disk, rounds);
        return x.record(0, 1, 3);
    }

    private static void recordLooksAtTheRoundsInWhichItWrites() {
        // From start 0, disks 0 and 1 are written in the second round from here, 1 and 2 in the third, 2 and 3 in the fourth.
        int[][] starts = {{0, 0, 0, 0}, {1, 2, 0, 0}, {0, 1, 2, 0}, {0, 0, 1, 2}, {0, 0, 0, 0}};
        for (int rounds = 1; rounds <= 5; rounds++) {
            for (int disk = 0; disk < 4; disk++) {
                String what = "disk " + disk + " is busy in " + rounds;
                check.due(what, starts[rounds - 1][disk], startBeside(4, disk, rounds));
                check.due(what + ", but not too much", 0, startBeside(3, disk, rounds));
            }
        }
    }

    private static void recordAddsToWhatTheOtherRecorderWrites() {
        for (int fetches = 2; fetches <= 3; fetches++) {
            PlayoutStation x = Check.withClip(0, 6);
            check.due("the other recorder", 0, x.record(1, 2, 1));
            fetch(x, fetches, 0, 2);
            check.due("beside " + fetches, fetches - 2, x.record(0, 1, 1));
            check.due("load", 4, x.load(0, 2));
        }
    }

    // Promise 3: "Frame f of the second that is recorded in this round (in the place of what was fed for it)."

    private static void feedTakesThePlaceOfWhatWasFed() {
        PlayoutStation x = new PlayoutStation();
        x.record(0, 0, 2);
        x.round();
        x.feed(0, 0, 5);
        x.feed(0, 4, 6);
        x.feed(0, 0, 7);
        x.feed(0, 4, 0);
        x.round();
        x.feed(0, 0, 8);
        x.rounds(2);
        check.due("event", 0, x.event(0, 0, 0, 0, 10, Check.time(x, 2, 0)));
        x.rounds(2);
        check.due("fed twice", 7, x.shown(0, 0));
        check.due("fed black again", 0, x.shown(0, 4));
        x.round();
        check.due("the next second", 8, x.shown(0, 0));
        check.due("not fed", 0, x.shown(0, 4));
    }

    // Promise 4: "the clip has the seconds that were fed in rounds before this one (it is not there, if there are none): how many;
    // there is room again for the others"

    private static PlayoutStation recording(int n, int rounds) {
        PlayoutStation x = new PlayoutStation();
        check.due("start", 0, x.record(0, 7, n));
        x.rounds(rounds);
        return x;
    }

    private static void stopKeepsTheSecondsFedBefore() {
        for (int rounds = 0; rounds <= 30; rounds++) {
            PlayoutStation x = recording(30, rounds);
            int kept = Math.max(0, rounds - 1);
            check.due("kept in round " + rounds, kept, x.stop(0));
            check.due("seconds", kept, x.clip(7, 1));
            check.due("recorded until the last one is written", kept == 0 ? 0 : 1, x.clip(7, 0));
            check.due("the last one is written", kept == 0 ? 0 : 2, x.round());
            check.due("ready", kept == 0 ? 0 : 2, x.clip(7, 0));
            check.due("nothing more", 0, x.rounds(40));
            check.due("seconds", kept, x.clip(7, 1));
        }
        check.due("one second, fed in this round", 0, recording(1, 1).stop(0));
    }

    private static void stopGivesRoomAgain() {
        PlayoutStation x = recording(30, 3);
        rooms("before", x, 14, 14, 14, 14, 14, 14);
        check.due("load", 1, x.load(3, 1));
        check.due("two seconds", 2, x.stop(0));
        rooms("behind", x, 23, 22, 23, 24, 24, 24);
        check.due("what is kept is written", 1, x.load(1, 0));
        check.due("what is kept is written", 1, x.load(2, 0));
        for (int d = 0; d < 6; d++) {
            check.due("nothing more is written", 0, x.load(d, 1));
        }
        x.round();
        int[] has = {1, 2, 1, 0, 0, 0};
        for (int d = 0; d < 6; d++) {
            check.due("pieces on " + d, has[d], x.disk(d, 2));
        }
    }

    private static void stopTakesAClipAwayThatHasNone() {
        for (int rounds = 0; rounds <= 1; rounds++) {
            PlayoutStation x = recording(30, rounds);
            check.due("none", 0, x.stop(0));
            rooms("all", x, 24, 24, 24, 24, 24, 24);
            for (int what = 0; what < 3; what++) {
                check.due("not there", 0, x.clip(7, what));
            }
            check.due("it can be recorded again", 0, x.record(1, 7, 1));
        }
        PlayoutStation x = recording(30, 2);
        check.due("one", 1, x.stop(0));
        check.due("it is there", -1, x.record(1, 7, 1));
    }

    // Promise 5: "an event comes into a channel's list, before the one with a number (or behind all)"

    private static void ins(String what, PlayoutStation x, int... want) {
        check.due(what + ": events", want.length, x.events(0));
        for (int k = 0; k < want.length; k++) {
            check.due(what + ": in of " + k, want[k], x.about(0, k, 1));
        }
    }

    private static PlayoutStation threeEvents() {
        PlayoutStation x = Check.withClip(0, 2);
        check.due("behind none", 0, x.event(0, 0, 0, 1, 2, 100));
        check.due("behind all", 0, x.event(0, 1, 0, 2, 3, -1));
        check.due("behind all", 0, x.event(0, 2, 0, 3, 4, -1));
        return x;
    }

    private static void eventComesBeforeTheOneWithItsNumber() {
        PlayoutStation x = threeEvents();
        check.due("before the first", 0, x.event(0, 0, 0, 7, 8, 99));
        ins("before the first", x, 7, 1, 2, 3);
        check.due("before the last", 0, x.event(0, 3, 0, 8, 9, -1));
        ins("before the last", x, 7, 1, 2, 8, 3);
        check.due("behind the last", 0, x.event(0, 5, 0, 9, 10, -1));
        ins("behind the last", x, 7, 1, 2, 8, 3, 9);
    }

    // Promises 6 and 7: "an event goes", "event k and the next one change places"

    private static void removeAndSwapAtBothEnds() {
        PlayoutStation x = threeEvents();
        check.due("the last two", 0, x.swap(0, 1));
        ins("the last two", x, 1, 3, 2);
        check.due("the last", 0, x.remove(0, 2));
        ins("the last", x, 1, 3);
        check.due("one with a time", 0, x.event(0, 2, 0, 4, 5, 102));
        check.due("the one in the middle", 0, x.remove(0, 1));
        check.due("the first", 0, x.remove(0, 0));
        ins("the first", x, 4);
        check.due("the only one", 0, x.remove(0, 0));
        ins("none", x);
        PlayoutStation y = Check.withClip(0, 2);
        check.due("event", 0, y.event(0, 0, 0, 1, 2, 100));
        check.due("event", 0, y.event(0, 1, 0, 2, 3, 100 + 1));
        check.due("both have times", -2, y.swap(0, 0));
        ins("refused", y, 1, 2);
    }

    // Promise 10: "What a channel shows at frame f of this round."

    private static void shownIsBlackWhereNoEventIs() {
        PlayoutStation x = Check.withClip(0, 1);
        int time = Check.time(x, 2, 0);
        check.due("event", 0, x.event(0, 0, 0, 0, 1, time + 1));
        check.due("event behind a gap", 0, x.event(0, 1, 0, 1, 2, time + 3));
        x.rounds(2);
        int[] want = {0, Check.frameOf(0, 0), 0, Check.frameOf(0, 1), 0};
        for (int f = 0; f < 5; f++) {
            check.due("frame " + f, want[f], x.shown(0, f));
            check.due("a channel without events", 0, x.shown(1, f));
        }
        x.round();
        for (int f = 0; f < 5; f++) {
            check.due("behind all events", 0, x.shown(0, f));
        }
    }

    // Promise 11: "3 its time as it was told (-1; of the first one, when others have gone, the time at which it begins), 4 when it begins"

    private static void aboutTellsTheTimeAsItWasTold() {
        PlayoutStation x = Check.withClip(0, 2);
        int time = Check.time(x, 2, 0);
        check.due("first", 0, x.event(0, 0, 0, 0, 5, time));
        check.due("second", 0, x.event(0, 1, 0, 0, 7, -1));
        check.due("third", 0, x.event(0, 2, 0, 0, 1, time + 12));
        int[] told = {time, -1, time + 12};
        int[] begins = {time, time + 5, time + 12};
        for (int k = 0; k < 3; k++) {
            check.due("told " + k, told[k], x.about(0, k, 3));
            check.due("begins " + k, begins[k], x.about(0, k, 4));
        }
        check.due("the second one goes", 0, x.remove(0, 1));
        check.due("the third has its time", time + 12, x.about(0, 1, 4));
        check.due("another one", 0, x.event(0, 1, 0, 0, 7, -1));
        x.rounds(2);
        check.due("none has gone", -1, x.about(0, 1, 3));
        x.round();
        check.due("the first has gone", time + 5, x.about(0, 0, 3));
        check.due("the third has its time", time + 12, x.about(0, 1, 3));
        x.round();
        check.due("none has gone in this round", time + 5, x.about(0, 0, 3));
    }

    // Promise 12: "How many events a channel's list has."

    private static void eventsCountsFromNoneToTwelve() {
        PlayoutStation x = Check.withClip(0, 6);
        for (int k = 0; k < 12; k++) {
            check.due("events", k, x.events(3));
            check.due("event", 0, x.event(3, k, 0, 5 * (k % 6), 5 * (k % 6) + 1, 100 + 5 * k));
        }
        check.due("twelve", 12, x.events(3));
        check.due("a thirteenth", -2, x.event(3, 12, 0, 0, 1, -1));
        check.due("twelve still", 12, x.events(3));
        for (int c = 0; c < 3; c++) {
            check.due("another list", 0, x.events(c));
        }
    }

    // Promise 13: "0: 0 not there, 1 recorded, 2 ready; 1 how many seconds it has (of one that is recorded: will have); 2 its start;
    // 0 for these of one that is not there."

    private static void clip(String what, PlayoutStation x, int clip, int... want) {
        for (int i = 0; i < 3; i++) {
            check.due(what + ": " + i, want[i], x.clip(clip, i));
        }
    }

    private static void clipTellsNothingOfOneThatIsNotThere() {
        PlayoutStation x = noRoomOnTwoDisks();
        clip("not there yet", x, 15, 0, 0, 0);
        check.due("start", 2, x.record(0, 15, 3));
        clip("recorded", x, 15, 1, 3, 2);
        x.rounds(4);
        clip("its last second is to be written", x, 15, 1, 3, 2);
        x.round();
        clip("ready", x, 15, 2, 3, 2);
        check.due("delete", true, x.delete(15));
        clip("deleted", x, 15, 0, 0, 0);
        check.due("start", 2, x.record(0, 15, 3));
        check.due("stop", 0, x.stop(0));
        clip("stopped", x, 15, 0, 0, 0);
        check.due("start", 2, x.record(0, 15, 3));
        x.rounds(3);
        check.due("stop", 2, x.stop(0));
        clip("stopped with two seconds", x, 15, 1, 2, 2);
    }

    // Promise 14: "A clip goes; there is room again: whether it did (not when it is recorded, an event shows it, or it is not there)."

    private static PlayoutStation shownByAnEvent(int channel, int rounds) {
        PlayoutStation x = Check.withClip(0, 2);
        check.due("event", 0, x.event(channel, 0, 0, 0, 5, Check.time(x, 2, 0)));
        x.rounds(rounds);
        return x;
    }

    private static int asNumber(boolean answer) {
        return answer ? 1 : 0;
    }

    private static void deleteRefuses() {
        check.refusing("not there", 0, PlayoutStation::new, x -> asNumber(x.delete(0)));
        for (int r = 0; r <= 3; r++) {
            int rounds = r;
            check.refusing("recorded", 0, () -> recording(2, rounds), x -> asNumber(x.delete(7)));
        }
        check.due("ready", true, recording(2, 4).delete(7));
        for (int c = 0; c < 4; c++) {
            for (int r = 0; r <= 2; r++) {
                int channel = c;
                int rounds = r;
                check.refusing("an event shows it", 0, () -> shownByAnEvent(channel, rounds), x -> asNumber(x.delete(0)));
            }
            check.due("the event has gone", true, shownByAnEvent(c, 3).delete(0));
        }
        PlayoutStation x = shownByAnEvent(0, 0);
        Check.recordClip(x, 1, 1);
        check.due("its event", 0, x.event(2, 0, 1, 0, 1, 100));
        check.due("behind that", 0, x.event(2, 1, 1, 1, 2, -1));
        check.due("behind that", 0, x.event(2, 2, 0, 0, 1, -1));
        check.due("only the last one shows it", false, x.delete(0));
        check.due("remove", 0, x.remove(2, 2));
        check.due("no event shows it", true, x.delete(0));
        check.due("it is not there any more", false, x.delete(0));
    }

    private static void deleteGivesRoomAgain() {
        PlayoutStation x = Check.withClip(0, 2);
        check.due("record", 0, x.record(0, 1, 1));
        x.rounds(3);
        rooms("both", x, 22, 21, 23, 24, 24, 24);
        check.due("delete", true, x.delete(0));
        rooms("one", x, 23, 23, 24, 24, 24, 24);
        int[] has = {1, 1, 0, 0, 0, 0};
        for (int d = 0; d < 6; d++) {
            check.due("pieces on " + d, has[d], x.disk(d, 2));
        }
        check.due("the other one is there", 2, x.clip(1, 0));
    }

    // Promise 15: "The LOAD of a disk in round R + t.", t 0 .. 60

    private static void loadReachesFromThisRoundToTheSixtieth() {
        PlayoutStation x = Check.withClip(0, 6);
        check.due("the last frames of all", 0, x.event(0, 0, 0, 25, 30, Check.time(x, 59, 0)));
        for (int t = 0; t <= 60; t++) {
            check.due("load in " + t, t == 58 ? 1 : 0, x.load(5, t));
        }
        x.rounds(57);
        check.due("in the next round", 1, x.load(5, 1));
        check.due("in this round", 0, x.load(5, 0));
        x.round();
        check.due("in the next round", 0, x.load(5, 1));
        check.due("in this round", 1, x.load(5, 0));
        x.round();
        check.due("gone by", 0, x.load(5, 0));
        check.due("record", 0, x.record(0, 1, 30));
        int[] writes = {0, 0, 1, 1};
        for (int t = 0; t < 4; t++) {
            check.due("of a recording, in " + t, writes[t], x.load(1, t));
        }
        check.due("the last copy, in 31", 1, x.load(0, 31));
        check.due("none in 32", 0, x.load(0, 32));
    }

    // Promise 16: "1 for how many pieces and copies there is room (24 less all that lie or will lie there, by the clips that are there);
    // 2 how many it has (that were written to it)"

    private static void disk(String what, PlayoutStation x, int disk, int... want) {
        for (int i = 0; i < 3; i++) {
            check.due(what + ": " + i, want[i], x.disk(disk, i));
        }
    }

    private static void diskCountsWhatWillLieThere() {
        PlayoutStation x = recording(3, 0);
        disk("will lie there", x, 1, 0, 22, 0);
        x.rounds(2);
        disk("to be written", x, 1, 0, 22, 0);
        x.round();
        disk("the copy of piece 0", x, 1, 0, 22, 1);
        x.round();
        disk("and piece 1", x, 1, 0, 22, 2);
        disk("the copy of piece 1", x, 2, 0, 22, 1);
        disk("nothing yet", x, 3, 0, 23, 0);
        x.round();
        disk("and piece 2", x, 2, 0, 22, 2);
        disk("its copy", x, 3, 0, 23, 1);
        disk("nothing ever", x, 4, 0, 24, 0);
    }

    // Promise 17: "A disk fails: all that it has is lost." Promise 18: "The disk that has failed is replaced by a NEW one: which."

    private static void failLosesAll() {
        for (int d = 0; d < 6; d++) {
            PlayoutStation x = Check.withClip(0, 6);
            x.fail(d);
            disk("failed", x, d, 1, 22, 0);
            for (int other = 0; other < 6; other++) {
                if (other != d) {
                    disk("another one", x, other, 0, 22, 2);
                }
            }
            check.due("the clip stays ready", 2, x.clip(0, 0));
            check.due("replace", d, x.replace());
            disk("new", x, d, 2, 22, 0);
            x.round();
            disk("as before", x, d, 0, 22, 2);
        }
    }

    // Promise 19: "0 THE ROUND, 1 pieces that were missed, 2 pieces that were restored"

    private static void manyCounts() {
        PlayoutStation x = Check.withClip(0, 6);
        check.due("the round", 8, x.many(0));
        for (int d = 0; d < 6; d++) {
            x.fail(d);
            x.replace();
            check.due("restored before", 2 * d, x.many(2));
            x.round();
            check.due("restored", 2 * d + 2, x.many(2));
        }
        check.due("the round", 14, x.many(0));
        check.due("missed", 0, x.many(1));
    }
}
