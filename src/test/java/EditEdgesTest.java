import java.util.function.Supplier;

/** The edges of each reason that the terms name for an edit, which one is told, and that a refused edit changes nothing. */
public final class EditEdgesTest {
    private static final Check check = new Check();

    public static void main(String[] args) {
        theClipIsReady();
        theClipHasThatManyFrames();
        aStoppedClipHasTheFramesItKept();
        noneBeginsBeforeTheOneBeforeEnds();
        theFirstOneHasATime();
        notMoreThanTwelve();
        noneEndsAboveSixtyRounds();
        aShiftedOneEndsTooFar();
        newOnesBeginTwoRoundsAhead();
        whatIsShownInTheNextRoundStays();
        whatComesBehindTheNextRoundMayGo();
        nothingComesIntoTheNextRound();
        onlyTheChannelItselfCounts();
        fourFetchesAreNotTooMany();
        eachDiskHasItsLoad();
        aShiftIsTooMuch();
        writesCountToo();
        theLoadOfThisRoundDoesNotCount();
        theFirstReasonIsTold();
        check.end();
    }

    private static PlayoutStation shortClip() {
        return Check.withClip(0, 4);
    }

    /** Twelve seconds: pieces 0 and 6 lie on disk 0. */
    private static PlayoutStation twelveSeconds() {
        return Check.withClip(0, 12);
    }

    private static void refused(String what, int reason, Supplier<PlayoutStation> make, int channel, int k, int... event) {
        check.refusing(what, reason, make, x -> x.event(channel, k, event[0], event[1], event[2], event[3]));
    }

    // "-1 the clip of a new event is ready and has that many frames"

    private static PlayoutStation recording(int rounds) {
        PlayoutStation x = new PlayoutStation();
        x.record(0, 0, 2);
        x.rounds(rounds);
        return x;
    }

    private static void theClipIsReady() {
        refused("not there", -1, PlayoutStation::new, 0, 0, 0, 0, 1, 100);
        for (int r = 0; r <= 3; r++) {
            int rounds = r;
            refused("recorded, round " + r, -1, () -> recording(rounds), 0, 0, 0, 0, 1, 100);
        }
        check.due("ready in round 4", 0, recording(4).event(0, 0, 0, 0, 1, 100));
        refused("deleted", -1, EditEdgesTest::deleted, 0, 0, 0, 0, 1, 100);
    }

    private static PlayoutStation deleted() {
        PlayoutStation x = shortClip();
        check.due("delete", true, x.delete(0));
        return x;
    }

    private static void theClipHasThatManyFrames() {
        check.due("all frames", 0, shortClip().event(0, 0, 0, 0, 20, 100));
        check.due("the last frame", 0, shortClip().event(0, 0, 0, 19, 20, 100));
        refused("one frame more", -1, EditEdgesTest::shortClip, 0, 0, 0, 0, 21, 100);
        refused("only one that is not there", -1, EditEdgesTest::shortClip, 0, 0, 0, 20, 21, 100);
        refused("the greatest numbers", -1, EditEdgesTest::shortClip, 0, 0, 0, 0, Integer.MAX_VALUE, 1000000);
        refused("the greatest numbers", -1, EditEdgesTest::shortClip, 0, 0, 0, Integer.MAX_VALUE - 1, Integer.MAX_VALUE, 1000000);
        PlayoutStation x = Check.withClip(15, 30);
        check.due("150 frames", 0, x.event(3, 0, 15, 0, 150, Check.time(x, 2, 0)));
        check.due("151 frames", -1, x.event(3, 1, 15, 0, 151, -1));
    }

    private static PlayoutStation stoppedAtTwo() {
        PlayoutStation x = new PlayoutStation();
        x.record(0, 0, 30);
        x.rounds(3);
        check.due("kept", 2, x.stop(0));
        x.round();
        return x;
    }

    private static void aStoppedClipHasTheFramesItKept() {
        check.due("frames 0 to 9", 0, stoppedAtTwo().event(0, 0, 0, 0, 10, 100));
        refused("frame 10", -1, EditEdgesTest::stoppedAtTwo, 0, 0, 0, 0, 11, 100);
    }

    // "-2 no event begins before the one before it ends, the first one has a time, and the list has not more than 12"

    /** Ten frames from 100 on, and five without a time; then a gap of five, and ten from 120 on. */
    private static PlayoutStation withGap() {
        PlayoutStation x = shortClip();
        check.due("gap: first", 0, x.event(0, 0, 0, 0, 10, 100));
        check.due("gap: second", 0, x.event(0, 1, 0, 5, 10, -1));
        check.due("gap: third", 0, x.event(0, 2, 0, 10, 20, 120));
        return x;
    }

    private static void noneBeginsBeforeTheOneBeforeEnds() {
        check.due("just before the first", 0, withGap().event(0, 0, 0, 0, 10, 90));
        refused("a frame into the first", -2, EditEdgesTest::withGap, 0, 0, 0, 0, 10, 91);
        check.due("just behind the last", 0, withGap().event(0, 3, 0, 0, 1, 130));
        refused("a frame into the last", -2, EditEdgesTest::withGap, 0, 3, 0, 0, 1, 129);
        check.due("all of the gap", 0, withGap().event(0, 2, 0, 0, 5, -1));
        refused("more than the gap", -2, EditEdgesTest::withGap, 0, 2, 0, 0, 6, -1);
        check.due("all of the gap, with a time", 0, withGap().event(0, 2, 0, 0, 5, 115));
        refused("a frame before the gap", -2, EditEdgesTest::withGap, 0, 2, 0, 0, 5, 114);
        refused("a frame behind the gap", -2, EditEdgesTest::withGap, 0, 2, 0, 0, 5, 116);
        check.due("the second one is put off, to the gap's end", 0, withGap().event(0, 1, 0, 0, 5, -1));
        refused("the second one is put off, beyond it", -2, EditEdgesTest::withGap, 0, 1, 0, 0, 6, -1);
        refused("at time 0, behind others", -2, EditEdgesTest::withGap, 0, 1, 0, 0, 1, 0);
        check.refusing("swap with a later time", -2, EditEdgesTest::twoTimes, x -> x.swap(0, 0));
    }

    private static PlayoutStation twoTimes() {
        PlayoutStation x = shortClip();
        check.due("first", 0, x.event(0, 0, 0, 0, 1, 100));
        check.due("second", 0, x.event(0, 1, 0, 0, 1, 101));
        return x;
    }

    private static void theFirstOneHasATime() {
        refused("the only one", -2, EditEdgesTest::shortClip, 0, 0, 0, 0, 1, -1);
        refused("before others", -2, EditEdgesTest::withGap, 0, 0, 0, 0, 1, -1);
        check.refusing("the one behind is the first then", -2, EditEdgesTest::withGap, x -> x.remove(0, 0));
        check.refusing("the one behind comes first", -2, EditEdgesTest::withGap, x -> x.swap(0, 0));
        PlayoutStation x = withGap();
        check.due("the second goes", 0, x.remove(0, 1));
        check.due("the third has a time", 0, x.remove(0, 0));
        check.due("the third is the first then", 120, x.about(0, 0, 4));
    }

    private static PlayoutStation full() {
        PlayoutStation x = Check.withClip(0, 6);
        for (int k = 0; k < 12; k++) {
            check.due("full: event " + k, 0, x.event(0, k, 0, 5 * (k % 6), 5 * (k % 6) + 1, 100 + 5 * k));
        }
        return x;
    }

    private static void notMoreThanTwelve() {
        check.due("twelve", 12, full().events(0));
        refused("behind twelve", -2, EditEdgesTest::full, 0, 12, 0, 0, 1, -1);
        refused("before twelve", -2, EditEdgesTest::full, 0, 0, 0, 0, 1, 90);
        refused("among twelve", -2, EditEdgesTest::full, 0, 6, 0, 0, 1, -1);
        check.due("another list", 0, full().event(1, 0, 0, 0, 1, 90));
        PlayoutStation x = full();
        check.due("one goes", 0, x.remove(0, 5));
        check.due("another one comes", 0, x.event(0, 11, 0, 0, 1, -1));
        check.due("a thirteenth", -2, x.event(0, 12, 0, 0, 1, -1));
    }

    // "-3 none ends above 5 * (R + 60)"

    private static void noneEndsAboveSixtyRounds() {
        int limit = Check.time(shortClip(), 60, 0);
        check.due("it ends there", 0, shortClip().event(0, 0, 0, 0, 20, limit - 20));
        refused("it ends a frame behind", -3, EditEdgesTest::shortClip, 0, 0, 0, 0, 20, limit - 19);
        check.due("the last frame of all", 0, shortClip().event(0, 0, 0, 0, 1, limit - 1));
        refused("it begins there", -3, EditEdgesTest::shortClip, 0, 0, 0, 0, 1, limit);
        refused("the latest time", -3, EditEdgesTest::shortClip, 0, 0, 0, 0, 20, 1000000);
        PlayoutStation x = shortClip();
        x.round();
        check.due("a round later", 0, x.event(0, 0, 0, 0, 5, limit));
        check.due("a round later, a frame behind", -3, x.event(0, 1, 0, 0, 1, -1));
    }

    /** One frame, then five without a time, then one that ends 60 rounds ahead. */
    private static PlayoutStation upToTheLimit() {
        PlayoutStation x = shortClip();
        int limit = Check.time(x, 60, 0);
        check.due("limit: first", 0, x.event(0, 0, 0, 0, 1, limit - 50));
        check.due("limit: second", 0, x.event(0, 1, 0, 0, 5, -1));
        check.due("limit: third", 0, x.event(0, 2, 0, 5, 6, limit - 6));
        check.due("limit: fourth", 0, x.event(0, 3, 0, 5, 10, -1));
        return x;
    }

    private static void aShiftedOneEndsTooFar() {
        refused("the last one is put off", -3, EditEdgesTest::upToTheLimit, 0, 3, 0, 0, 1, -1);
        PlayoutStation x = upToTheLimit();
        check.due("the last one goes", 0, x.remove(0, 3));
        check.due("the second one comes behind the third", 0, x.swap(0, 1));
        check.due("it ends 60 rounds ahead", Check.time(x, 60, 0) - 5, x.about(0, 2, 4));
        check.refusing("the second one would end a frame behind", -3, EditEdgesTest::aFrameFromTheLimit, y -> y.swap(0, 1));
    }

    private static PlayoutStation aFrameFromTheLimit() {
        PlayoutStation x = upToTheLimit();
        int limit = Check.time(x, 60, 0);
        check.due("the last one goes", 0, x.remove(0, 3));
        check.due("the third goes", 0, x.remove(0, 2));
        check.due("one that ends four frames before", 0, x.event(0, 2, 0, 5, 6, limit - 5));
        return x;
    }

    // "-4 all that the channel's events show at times below 5 * (R + 2) is as it was"

    private static void newOnesBeginTwoRoundsAhead() {
        int settled = Check.time(shortClip(), 2, 0);
        check.due("two rounds ahead", 0, shortClip().event(0, 0, 0, 0, 1, settled));
        for (int time = settled - 11; time < settled; time++) {
            refused("at " + (time - settled), -4, EditEdgesTest::shortClip, 0, 0, 0, 0, 1, time);
        }
        refused("at time 0", -4, EditEdgesTest::shortClip, 0, 0, 0, 0, 1, 0);
        refused("only its first frame is too early", -4, EditEdgesTest::shortClip, 0, 0, 0, 0, 20, settled - 1);
    }

    /**
     * An event that began in this round ends so many frames before the settled time; the second one begins at that
     * time, or where the first ends; a third one comes behind it.
     */
    private static PlayoutStation playing(int framesBefore, boolean timed) {
        PlayoutStation x = shortClip();
        int begin = Check.time(x, 2, 0);
        check.due("playing: first", 0, x.event(0, 0, 0, 0, 10 - framesBefore, begin));
        check.due("playing: second", 0, x.event(0, 1, 0, 3, 9, timed ? begin + 10 : -1));
        check.due("playing: third", 0, x.event(0, 2, 0, 12, 17, -1));
        x.rounds(2);
        return x;
    }

    private static void whatIsShownInTheNextRoundStays() {
        check.refusing("it is shown now alone", -4, () -> playing(5, true), x -> x.remove(0, 0));
        check.refusing("it is shown now, and in the next round", -4, () -> playing(0, true), x -> x.remove(0, 0));
        check.refusing("one that shows a frame of it goes", -4, () -> playing(1, false), x -> x.remove(0, 1));
        check.refusing("another one comes before it", -4, () -> playing(1, false), x -> x.swap(0, 1));
        check.refusing("one is put off", -4, () -> playing(1, false), x -> x.event(0, 1, 0, 0, 1, -1));
    }

    private static void whatComesBehindTheNextRoundMayGo() {
        check.due("one goes", 0, playing(0, true).remove(0, 1));
        check.due("one without a time goes", 0, playing(0, false).remove(0, 1));
        check.due("two change places", 0, playing(0, false).swap(0, 1));
        check.due("one is put off", 0, playing(0, false).event(0, 1, 0, 0, 1, -1));
        check.due("one that began a frame before stays, the next goes", 0, playing(1, false).remove(0, 2));
    }

    private static void nothingComesIntoTheNextRound() {
        int settled = Check.time(playing(1, true), 2, 0);
        refused("a new one", -4, () -> playing(1, true), 0, 1, 0, 0, 1, -1);
        refused("a new one, by its time", -4, () -> playing(1, true), 0, 1, 0, 0, 1, settled - 1);
        check.refusing("the third, when the second goes", -4, () -> playing(1, true), x -> x.remove(0, 1));
    }

    private static void onlyTheChannelItselfCounts() {
        PlayoutStation x = playing(0, true);
        check.due("another channel", 0, x.event(1, 0, 0, 0, 1, Check.time(x, 2, 0)));
        check.due("and away", 0, x.remove(1, 0));
        check.due("another channel shows nothing", -4, x.event(1, 0, 0, 0, 1, Check.time(x, 0, 0)));
    }

    // "-5 no load of a round from R + 1 on is above 4"

    /** Four channels fetch piece 0 in the round that comes so many rounds behind this one. */
    private static PlayoutStation fourFetch(int rounds) {
        PlayoutStation x = twelveSeconds();
        for (int c = 0; c < 4; c++) {
            check.due("fetch " + c, 0, x.event(c, 0, 0, 0, 1, Check.time(x, rounds + 1, 0)));
        }
        check.due("a load of 4", 4, x.load(0, rounds));
        return x;
    }

    private static void fourFetchesAreNotTooMany() {
        int[] nearAndFar = {1, 2, 30, 57, 58};
        for (int rounds : nearAndFar) {
            int time = Check.time(twelveSeconds(), rounds + 1, 0);
            refused("a fifth, in " + rounds, -5, () -> fourFetch(rounds), 0, 1, 0, 4, 5, -1);
            refused("another piece of that disk", -5, () -> fourFetch(rounds), 3, 1, 0, 30, 31, -1);
            refused("in the round's last frame", -5, () -> fourFetch(rounds), 1, 1, 0, 30, 31, time + 4);
            check.due("a piece whose copy lies on that disk", 0, fourFetch(rounds).event(2, 1, 0, 25, 26, -1));
            check.due("a piece on the next disk", 0, fourFetch(rounds).event(2, 1, 0, 35, 36, -1));
            if (rounds > 1) {
                check.due("a round before", 0, fourFetch(rounds).event(0, 0, 0, 30, 31, time - 1));
            }
            if (rounds < 58) {
                check.due("a round behind", 0, fourFetch(rounds).event(0, 1, 0, 30, 31, time + 5));
            }
        }
    }

    private static void eachDiskHasItsLoad() {
        for (int d = 0; d < 6; d++) {
            PlayoutStation x = twelveSeconds();
            int time = Check.time(x, 3, 0);
            for (int c = 0; c < 4; c++) {
                check.due("fetch " + c, 0, x.event(c, 0, 0, 5 * d, 5 * d + 1, time));
            }
            for (int other = 0; other < 6; other++) {
                int in = 5 * (other + 6);
                check.due("disk " + other + " beside disk " + d, other == d ? -5 : 0, x.event(2, 1, 0, in, in + 1, -1));
            }
        }
    }

    /** Four fetches in one round, and in channel 0 four frames of another disk, and a fifth fetch a round later. */
    private static PlayoutStation fifthFetchARoundLater() {
        PlayoutStation x = fourFetch(4);
        check.due("four frames", 0, x.event(0, 1, 0, 6, 10, -1));
        check.due("the fifth fetch", 0, x.event(0, 2, 0, 30, 31, -1));
        check.due("a round later", 1, x.load(0, 5));
        return x;
    }

    private static void aShiftIsTooMuch() {
        check.refusing("by remove", -5, EditEdgesTest::fifthFetchARoundLater, x -> x.remove(0, 1));
        check.refusing("by swap", -5, EditEdgesTest::fifthFetchARoundLater, x -> x.swap(0, 1));
        PlayoutStation x = fifthFetchARoundLater();
        check.due("one of the others goes", 0, x.remove(3, 0));
        check.due("four at most", 0, x.swap(0, 1));
        check.due("load", 4, x.load(0, 4));
    }

    /** A second is written to disk 0, its copy to disk 1, in the round in which three channels fetch from both. */
    private static PlayoutStation threeFetchAndOneWrite() {
        PlayoutStation x = twelveSeconds();
        check.due("recording", 0, x.record(1, 1, 1));
        for (int c = 0; c < 3; c++) {
            check.due("fetch", 0, x.event(c, 0, 0, 0, 1, Check.time(x, 3, 0)));
            check.due("fetch", 0, x.event(c, 1, 0, 5, 6, -1));
        }
        return x;
    }

    private static void writesCountToo() {
        int time = Check.time(twelveSeconds(), 3, 0);
        refused("with the piece", -5, EditEdgesTest::threeFetchAndOneWrite, 3, 0, 0, 0, 1, time);
        refused("with its copy", -5, EditEdgesTest::threeFetchAndOneWrite, 3, 0, 0, 5, 6, time);
        check.due("a third disk", 0, threeFetchAndOneWrite().event(3, 0, 0, 10, 11, time));
        check.due("a round before", 0, threeFetchAndOneWrite().event(3, 0, 0, 0, 1, time - 1));
        check.due("a round behind", 0, threeFetchAndOneWrite().event(3, 0, 0, 0, 1, time + 5));
        PlayoutStation x = threeFetchAndOneWrite();
        check.due("nothing is kept", 0, x.stop(1));
        check.due("nothing is written then", 0, x.event(3, 0, 0, 0, 1, time));
    }

    /**
     * When the second event of channel 0 goes, what comes behind it shows the same, by two events in the place of one:
     * that makes five fetches in this round.
     */
    private static void theLoadOfThisRoundDoesNotCount() {
        PlayoutStation x = twelveSeconds();
        int time = Check.time(x, 3, 0);
        check.due("before", 0, x.event(0, 0, 0, 10, 11, time - 1));
        check.due("five frames", 0, x.event(0, 1, 0, 0, 5, -1));
        check.due("three frames of them", 0, x.event(0, 2, 0, 0, 3, -1));
        check.due("the other two", 0, x.event(0, 3, 0, 3, 5, -1));
        for (int c = 1; c < 4; c++) {
            check.due("fetch " + c, 0, x.event(c, 0, 0, 0, 1, time));
        }
        x.rounds(2);
        check.due("four fetches in this round", 4, x.load(0, 0));
        check.due("it goes", 0, x.remove(0, 1));
        check.due("five fetches in this round", 5, x.load(0, 0));
        check.due("five pieces", 5, x.round());
    }

    // "the first reason that doesn't hold is told"

    /** Two frames, and 288 behind them, up to 60 rounds ahead; then a round goes by. */
    private static PlayoutStation longList() {
        PlayoutStation x = Check.withClip(0, 30);
        check.due("long: first", 0, x.event(0, 0, 0, 0, 2, Check.time(x, 2, 0)));
        check.due("long: second", 0, x.event(0, 1, 0, 0, 150, -1));
        check.due("long: third", 0, x.event(0, 2, 0, 0, 138, -1));
        check.due("nothing behind", -3, x.event(0, 3, 0, 0, 1, -1));
        x.round();
        return x;
    }

    /** Four channels fetch piece 0 in the next round, for the second frame of the round behind. */
    private static PlayoutStation secondFrames() {
        PlayoutStation x = twelveSeconds();
        for (int c = 0; c < 4; c++) {
            check.due("fetch " + c, 0, x.event(c, 0, 0, 0, 1, Check.time(x, 2, 1)));
        }
        return x;
    }

    private static void theFirstReasonIsTold() {
        refused("-1 and -2: no time", -1, EditEdgesTest::shortClip, 0, 0, 1, 0, 1, -1);
        refused("-1 and -2: thirteen", -1, EditEdgesTest::full, 0, 12, 1, 0, 1, -1);
        refused("-1 and -3", -1, EditEdgesTest::shortClip, 0, 0, 0, 0, 21, 1000000);
        refused("-1 and -4", -1, EditEdgesTest::shortClip, 0, 0, 0, 0, 21, 0);
        refused("-1 and -5", -1, () -> fourFetch(5), 0, 1, 0, 30, 61, -1);
        refused("-2 and -3: order", -2, EditEdgesTest::withGap, 0, 0, 0, 0, 1, 1000000);
        refused("-2 and -3: thirteen", -2, EditEdgesTest::full, 0, 12, 0, 0, 1, 1000000);
        refused("-2 and -4: order", -2, EditEdgesTest::withGap, 0, 1, 0, 0, 1, 0);
        refused("-2 and -4: thirteen", -2, EditEdgesTest::full, 0, 0, 0, 0, 1, 0);
        refused("-2 and -5", -2, () -> fourFetch(5), 0, 1, 0, 30, 31, Check.time(twelveSeconds(), 6, 0));
        refused("-3 and -4", -3, EditEdgesTest::longList, 0, 1, 0, 5, 11, -1);
        refused("-4 alone", -4, EditEdgesTest::longList, 0, 1, 0, 5, 10, -1);
        refused("-3 and -5", -3, () -> fourFetch(58), 0, 1, 0, 30, 35, -1);
        refused("-5 alone", -5, () -> fourFetch(58), 0, 1, 0, 30, 34, -1);
        int settled = Check.time(twelveSeconds(), 2, 0);
        refused("-4 and -5", -4, EditEdgesTest::secondFrames, 0, 0, 0, 29, 31, settled - 1);
        refused("-5 alone", -5, EditEdgesTest::secondFrames, 0, 0, 0, 30, 31, settled);
    }
}
