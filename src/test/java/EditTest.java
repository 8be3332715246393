import java.util.ArrayList;
import java.util.List;

/** Promises 5 to 7, 11 and 12: event, remove, swap, about, events. */
public final class EditTest {
    private static final Check check = new Check();

    public static void main(String[] args) {
        eventsComeIntoTheirPlaces();
        aNewEventsClipIsReadyAndLongEnough();
        eventsKeepTheirOrder();
        aListHasTwelveEvents();
        noneEndsTooFarAhead();
        whatIsShownSoonStaysAsItIs();
        whatLooksTheSameMayChange();
        noLoadIsTooHigh();
        theFirstReasonIsTold();
        eventThrows();
        removeTakesAnEventOut();
        removeIsRefused();
        swapChangesPlaces();
        swapIsRefused();
        manyEditsOneBehindTheOther();
        aboutTells();
        theFirstOneLeftGetsATime();
        aboutAndEventsThrow();
        check.end();
    }

    private static void begins(String what, PlayoutStation x, int channel, int... want) {
        check.due(what + ": events", want.length, x.events(channel));
        for (int k = 0; k < Math.min(want.length, x.events(channel)); k++) {
            check.due(what + ": event " + k + " begins", want[k], x.about(channel, k, 4));
        }
    }

    private static void eventsComeIntoTheirPlaces() {
        PlayoutStation x = Check.withClip(5, 6);
        int t = Check.time(x, 5, 2);
        check.due("the first", 0, x.event(1, 0, 5, 3, 10, t));
        check.due("behind all", 0, x.event(1, 1, 5, 0, 4, -1));
        check.due("between", 0, x.event(1, 1, 5, 1, 3, -1));
        begins("between", x, 1, t, t + 7, t + 9);
        check.due("before all", 0, x.event(1, 0, 5, 0, 5, t - 5));
        begins("before all", x, 1, t - 5, t, t + 7, t + 9);
        check.due("with a time, behind all", 0, x.event(1, 4, 5, 29, 30, t + 13));
        check.due("with a time and a gap", 0, x.event(1, 5, 5, 29, 30, t + 20));
        begins("gap", x, 1, t - 5, t, t + 7, t + 9, t + 13, t + 20);
        check.due("into the gap", 0, x.event(1, 5, 5, 0, 6, -1));
        begins("into the gap", x, 1, t - 5, t, t + 7, t + 9, t + 13, t + 14, t + 20);
        check.due("the gap is full", -2, x.event(1, 6, 5, 0, 1, -1));
        check.due("another channel", 0, x.events(0));
    }

    private static void aNewEventsClipIsReadyAndLongEnough() {
        PlayoutStation x = new PlayoutStation();
        check.due("not there", -1, x.event(0, 0, 0, 0, 1, 50));
        x.record(0, 0, 1);
        check.due("recorded", -1, x.event(0, 0, 0, 0, 1, 50));
        x.rounds(2);
        check.due("to be written", -1, x.event(0, 0, 0, 0, 1, 50));
        x.round();
        check.due("too long", -1, x.event(0, 0, 0, 0, 6, 50));
        check.due("far too long", -1, x.event(0, 0, 0, 0, Integer.MAX_VALUE, 50));
        check.due("far too long", -1, x.event(0, 0, 0, Integer.MAX_VALUE - 1, Integer.MAX_VALUE, 1000000));
        check.due("all of it", 0, x.event(0, 0, 0, 0, 5, 50));
        check.due("only one was taken", 1, x.events(0));
    }

    private static void eventsKeepTheirOrder() {
        PlayoutStation x = Check.withClip(0, 4);
        int t = Check.time(x, 10, 0);
        check.due("the first one has no time", -2, x.event(0, 0, 0, 0, 1, -1));
        check.due("the first one", 0, x.event(0, 0, 0, 0, 10, t));
        check.due("begins before the first one ends", -2, x.event(0, 1, 0, 0, 1, t + 9));
        check.due("ends behind the next one's begin", -2, x.event(0, 0, 0, 0, 2, t - 1));
        check.due("at the same time", -2, x.event(0, 0, 0, 0, 1, t));
        check.due("before the first one, without a time", -2, x.event(0, 0, 0, 0, 1, -1));
        check.due("just before", 0, x.event(0, 0, 0, 0, 1, t - 1));
        check.due("just behind", 0, x.event(0, 2, 0, 0, 1, t + 10));
        check.due("in the middle, with no place", -2, x.event(0, 1, 0, 0, 1, -1));
        begins("order", x, 0, t - 1, t, t + 10);
    }

    private static void aListHasTwelveEvents() {
        PlayoutStation x = Check.withClip(0, 6);
        for (int k = 0; k < 12; k++) {
            check.due("event " + k, 0, x.event(2, k, 0, 5 * (k % 6), 5 * (k % 6) + 1, Check.time(x, 3 + k, 0)));
        }
        check.due("a thirteenth", -2, x.event(2, 12, 0, 0, 1, Check.time(x, 30, 0)));
        check.due("a thirteenth, between", -2, x.event(2, 3, 0, 0, 1, -1));
        check.due("twelve", 12, x.events(2));
        check.due("another channel has a list of its own", 0, x.event(1, 0, 0, 0, 1, Check.time(x, 30, 0)));
        check.due("one goes", 0, x.remove(2, 11));
        check.due("another one comes", 0, x.event(2, 11, 0, 0, 1, Check.time(x, 30, 0)));
    }

    private static void noneEndsTooFarAhead() {
        PlayoutStation x = Check.withClip(0, 4);
        int limit = Check.time(x, 60, 0);
        check.due("one frame too far", -3, x.event(0, 0, 0, 0, 10, limit - 9));
        check.due("the last time of all", -3, x.event(0, 0, 0, 0, 10, 1000000));
        check.due("just not too far", 0, x.event(0, 0, 0, 0, 10, limit - 10));
        check.due("behind it", -3, x.event(0, 1, 0, 0, 1, -1));
        x.round();
        check.due("a round later", 0, x.event(0, 1, 0, 0, 5, -1));
        check.due("the others would end too far ahead", -3, x.event(0, 1, 0, 0, 1, -1));
        begins("too far", x, 0, limit - 10, limit);
    }

    private static void whatIsShownSoonStaysAsItIs() {
        PlayoutStation x = Check.withClip(0, 4);
        int settled = Check.time(x, 2, 0);
        check.due("in the next round", -4, x.event(0, 0, 0, 0, 1, settled - 1));
        check.due("in this round", -4, x.event(0, 0, 0, 0, 1, settled - 10));
        check.due("in rounds gone by", -4, x.event(0, 0, 0, 0, 1, 0));
        check.due("in the round behind", 0, x.event(0, 0, 0, 0, 20, settled));
        check.due("and away again", 0, x.remove(0, 0));
        check.due("and again", 0, x.event(0, 0, 0, 0, 20, settled));
        check.due("another one behind it", 0, x.event(0, 1, 0, 3, 6, -1));
        x.round();
        check.due("behind it all is free", 0, x.remove(0, 1));
        check.due("it is shown in the next round", -4, x.remove(0, 0));
        check.due("another one behind it", 0, x.event(0, 1, 0, 0, 1, -1));
        x.rounds(3);
        check.due("the other one is not shown before the round behind the next", 0, x.event(0, 1, 0, 9, 14, -1));
        begins("soon", x, 0, settled, settled + 20, settled + 25);
        x.round();
        check.due("the next one is shown soon", -4, x.event(0, 1, 0, 8, 14, -1));
        check.due("behind it", 0, x.event(0, 2, 0, 8, 14, -1));
        begins("soon", x, 0, settled, settled + 20, settled + 25, settled + 31);
        check.due("soon", -4, x.swap(0, 1));
        check.due("not soon", 0, x.swap(0, 2));
    }

    private static void whatLooksTheSameMayChange() {
        PlayoutStation x = Check.withClip(0, 4);
        int t = Check.time(x, 2, 0);
        check.due("first", 0, x.event(0, 0, 0, 0, 10, t));
        check.due("second", 0, x.event(0, 1, 0, 3, 9, -1));
        x.rounds(3);
        check.due("another first frame in the next round", -4, x.event(0, 1, 0, 4, 20, -1));
        check.due("behind the next round", 0, x.event(0, 2, 0, 0, 9, -1));
        check.due("the same frames in the next round", 0, x.event(0, 1, 0, 3, 20, -1));
        begins("same", x, 0, t, t + 10, t + 27, t + 33);
        check.due("the same frames in the next round", 0, x.swap(0, 1));
        begins("same", x, 0, t, t + 10, t + 16, t + 33);
        check.due("away", 0, x.remove(0, 1));
        x.round();
        check.due("the same frames", Check.frameOf(0, 3), x.shown(0, 0));
        check.due("the same frames", Check.frameOf(0, 7), x.shown(0, 4));
    }

    private static void noLoadIsTooHigh() {
        PlayoutStation x = Check.withClip(0, 12);
        int t = Check.time(x, 2, 0);
        for (int c = 0; c < 4; c++) {
            check.due("four at once", 0, x.event(c, 0, 0, 0, 2, t + c));
        }
        check.due("a fifth", -5, x.event(0, 1, 0, 4, 5, -1));
        check.due("a fifth, of another piece on that disk", -5, x.event(0, 1, 0, 30, 31, -1));
        check.due("the fetch is in the round before the first frame", -5, x.event(0, 1, 0, 30, 36, t + 4));
        check.due("a round later", 0, x.event(0, 1, 0, 30, 31, t + 5));
        check.due("another disk", 0, x.event(0, 1, 0, 5, 6, -1));
        check.due("events", 3, x.events(0));
        check.due("load", 4, x.load(0, 1));

        x = Check.withClip(0, 12);
        t = Check.time(x, 3, 0);
        check.due("a piece is written to disk 0 in two rounds", 0, x.record(1, 1, 1));
        for (int c = 0; c < 3; c++) {
            check.due("fetches", 0, x.event(c, 0, 0, 0, 1, t));
            check.due("fetches from the copy's disk", 0, x.event(c, 1, 0, 5, 6, -1));
        }
        check.due("with what is written", -5, x.event(3, 0, 0, 0, 1, t));
        check.due("with the copy that is written", -5, x.event(3, 0, 0, 5, 6, t));
        check.due("elsewhere", 0, x.event(3, 0, 0, 10, 11, t));
        x.stop(1);
        check.due("what is not written is no load", 0, x.event(3, 0, 0, 0, 1, t - 1));
    }

    private static void theFirstReasonIsTold() {
        PlayoutStation x = Check.withClip(0, 12);
        int t = Check.time(x, 2, 0);
        check.due("no clip before no time", -1, x.event(0, 0, 1, 0, 1, -1));
        check.due("first", 0, x.event(0, 0, 0, 0, 1, t));
        check.due("out of order before too far", -2, x.event(0, 0, 0, 0, 1, 1000000));
        check.due("out of order before too late", -2, x.event(0, 1, 0, 0, 1, 0));
        for (int c = 1; c < 4; c++) {
            check.due("first", 0, x.event(c, 0, 0, 0, 1, t));
        }
        check.due("too late before the load", -4, x.event(0, 0, 0, 30, 31, t - 1));
        check.due("the load", -5, x.event(0, 1, 0, 30, 31, -1));
    }

    private static void eventThrows() {
        PlayoutStation x = Check.withClip(0, 1);
        check.throwing("channel", Check.NO_SUCH, () -> x.event(-1, 0, 0, -1, 1, 50));
        check.throwing("channel", Check.NO_SUCH, () -> x.event(4, 0, 0, -1, 1, 50));
        check.throwing("clip", Check.NO_SUCH, () -> x.event(0, 0, -1, 0, 0, 50));
        check.throwing("clip", Check.NO_SUCH, () -> x.event(0, 0, 16, 0, 0, 50));
        check.throwing("number", Check.NO_SUCH, () -> x.event(0, 1, 0, 0, 1, -2));
        check.throwing("number", Check.NO_SUCH, () -> x.event(0, -1, 0, 0, 1, -2));
        check.throwing("number", Check.NO_SUCH, () -> x.event(0, Integer.MAX_VALUE, 0, 0, 1, 50));
        check.throwing("in", Check.ARGUMENT, () -> x.event(0, 0, 0, -1, 1, 50));
        check.throwing("in", Check.ARGUMENT, () -> x.event(0, 0, 0, Integer.MIN_VALUE, Integer.MAX_VALUE, 50));
        check.throwing("out", Check.ARGUMENT, () -> x.event(0, 0, 0, 1, 1, 50));
        check.throwing("out", Check.ARGUMENT, () -> x.event(0, 0, 0, 2, 1, 50));
        check.throwing("out", Check.ARGUMENT, () -> x.event(0, 0, 0, 0, Integer.MIN_VALUE, 50));
        check.throwing("time", Check.ARGUMENT, () -> x.event(0, 0, 0, 0, 1, -2));
        check.throwing("time", Check.ARGUMENT, () -> x.event(0, 0, 0, 0, 1, 1000001));
        check.throwing("before the clip that is not ready", Check.ARGUMENT, () -> x.event(0, 0, 1, 0, 0, 50));
        check.due("none was taken", 0, x.events(0));
        check.due("taken", 0, x.event(0, 0, 0, 0, 1, 50));
        check.due("the number behind all", -2, x.event(0, 1, 0, 0, 1, 50));
        check.throwing("number", Check.NO_SUCH, () -> x.event(0, 2, 0, 0, 1, 50));
    }

    private static PlayoutStation withThree(int t) {
        PlayoutStation x = Check.withClip(0, 4);
        check.due("first", 0, x.event(0, 0, 0, 0, 10, t));
        check.due("second", 0, x.event(0, 1, 0, 5, 12, -1));
        check.due("third", 0, x.event(0, 2, 0, 1, 4, t + 30));
        return x;
    }

    private static void removeTakesAnEventOut() {
        int t = 100;
        PlayoutStation x = withThree(t);
        check.due("another one behind", 0, x.event(0, 3, 0, 2, 9, -1));
        check.due("remove the third", 0, x.remove(0, 2));
        begins("the last one follows the second", x, 0, t, t + 10, t + 17);
        check.due("in of the last", 2, x.about(0, 2, 1));
        check.due("remove the last", 0, x.remove(0, 2));
        check.due("remove the second", 0, x.remove(0, 1));
        check.due("remove the first", 0, x.remove(0, 0));
        check.due("none left", 0, x.events(0));
        check.due("no load left", 0, x.load(0, t / 5 - 1 - x.many(0)));
        check.due("nothing is fetched", 0, x.rounds(30));
    }

    private static void removeIsRefused() {
        int t = 100;
        PlayoutStation x = withThree(t);
        check.due("the second one has no time", -2, x.remove(0, 0));
        begins("refused", x, 0, t, t + 10, t + 30);
        check.throwing("no such event", Check.NO_SUCH, () -> x.remove(0, 3));
        check.throwing("no such event", Check.NO_SUCH, () -> x.remove(0, -1));
        check.throwing("no such event", Check.NO_SUCH, () -> x.remove(1, 0));
        check.throwing("no such channel", Check.NO_SUCH, () -> x.remove(4, 0));
        check.throwing("no such channel", Check.NO_SUCH, () -> x.remove(-1, 0));

        PlayoutStation y = Check.withClip(0, 12);
        int u = Check.time(y, 4, 0);
        for (int c = 0; c < 4; c++) {
            check.due("four at once", 0, y.event(c, 0, 0, 0, 1, u));
        }
        check.due("the second", 0, y.event(0, 1, 0, 6, 10, -1));
        check.due("the third, a round later", 0, y.event(0, 2, 0, 30, 31, -1));
        check.due("the third one would come into the others' round", -5, y.remove(0, 1));
        begins("refused", y, 0, u, u + 1, u + 5);
    }

    private static void swapChangesPlaces() {
        int t = 100;
        PlayoutStation x = withThree(t);
        check.due("swap", 0, x.swap(0, 1));
        begins("the untimed one follows the timed one", x, 0, t, t + 30, t + 33);
        check.due("in", 1, x.about(0, 1, 1));
        check.due("in", 5, x.about(0, 2, 1));
        check.due("time as told", t + 30, x.about(0, 1, 3));
        check.due("time as told", -1, x.about(0, 2, 3));
        check.due("load", 1, x.load(1, (t + 33) / 5 - 1 - x.many(0)));
        check.due("back", 0, x.swap(0, 1));
        begins("back", x, 0, t, t + 10, t + 30);
    }

    private static void swapIsRefused() {
        int t = 100;
        PlayoutStation x = withThree(t);
        check.due("the first one would have no time", -2, x.swap(0, 0));
        check.due("one with a later time", 0, x.event(0, 3, 0, 0, 3, t + 40));
        check.due("a later one before an earlier one", -2, x.swap(0, 2));
        begins("refused", x, 0, t, t + 10, t + 30, t + 40);
        check.throwing("the last one has no next one", Check.NO_SUCH, () -> x.swap(0, 3));
        check.throwing("no such event", Check.NO_SUCH, () -> x.swap(0, 4));
        check.throwing("no such event", Check.NO_SUCH, () -> x.swap(0, -1));
        check.throwing("no such event", Check.NO_SUCH, () -> x.swap(0, Integer.MAX_VALUE));
        check.throwing("no such event", Check.NO_SUCH, () -> x.swap(1, 0));
        check.throwing("no such channel", Check.NO_SUCH, () -> x.swap(4, 0));

        PlayoutStation y = Check.withClip(0, 4);
        int limit = Check.time(y, 60, 0);
        check.due("first", 0, y.event(0, 0, 0, 0, 1, limit - 50));
        check.due("second", 0, y.event(0, 1, 0, 0, 5, -1));
        check.due("third", 0, y.event(0, 2, 0, 5, 10, limit - 9));
        check.due("the second one would end too far ahead", -3, y.swap(0, 1));
        begins("refused", y, 0, limit - 50, limit - 49, limit - 9);
    }

    /** The first event stays; the others come and go, and each is told by its first frame. */
    private static void manyEditsOneBehindTheOther() {
        PlayoutStation x = Check.withClip(0, 6);
        List<Integer> due = new ArrayList<>(List.of(29));
        check.due("first", 0, x.event(0, 0, 0, 29, 30, 100));
        for (int i = 0; i < 24; i++) {
            int k = 1 + i * 5 % due.size();
            check.due("comes", 0, x.event(0, k, 0, i, 30, -1));
            due.add(k, i);
            if (i % 3 > 0) {
                int gone = 1 + i % (due.size() - 1);
                check.due("goes", 0, x.remove(0, gone));
                due.remove(gone);
            }
            if (due.size() > 2) {
                check.due("change places", 0, x.swap(0, due.size() - 2));
                due.add(due.size() - 2, due.remove(due.size() - 1));
            }
            check.due("events", due.size(), x.events(0));
            for (int j = 0; j < due.size(); j++) {
                check.due("in of " + j + " behind edit " + i, due.get(j), x.about(0, j, 1));
            }
        }
    }

    private static void aboutTells() {
        PlayoutStation x = Check.withClip(7, 4);
        check.due("first", 0, x.event(3, 0, 7, 2, 13, 100));
        check.due("second", 0, x.event(3, 1, 7, 4, 9, -1));
        int[][] want = {{7, 2, 13, 100, 100, 0}, {7, 4, 9, -1, 111, 0}};
        for (int k = 0; k < 2; k++) {
            for (int what = 0; what < 6; what++) {
                check.due("about " + k + " " + what, want[k][what], x.about(3, k, what));
            }
        }
    }

    private static void theFirstOneLeftGetsATime() {
        PlayoutStation x = Check.withClip(0, 4);
        int t = Check.time(x, 2, 0);
        check.due("first", 0, x.event(0, 0, 0, 0, 6, t));
        check.due("second", 0, x.event(0, 1, 0, 0, 4, -1));
        check.due("third", 0, x.event(0, 2, 0, 0, 4, -1));
        x.rounds(3);
        check.due("the first one shows its last frame in this round", 3, x.events(0));
        check.due("no time", -1, x.about(0, 1, 3));
        x.round();
        check.due("two of them have ended", 1, x.events(0));
        check.due("the third one's time", t + 10, x.about(0, 0, 3));
        check.due("the third one's begin", t + 10, x.about(0, 0, 4));
        x.round();
        check.due("all have ended", 0, x.events(0));
    }

    private static void aboutAndEventsThrow() {
        PlayoutStation x = withThree(100);
        check.throwing("about", Check.NO_SUCH, () -> x.about(4, 0, 0));
        check.throwing("about", Check.NO_SUCH, () -> x.about(-1, 0, 6));
        check.throwing("about", Check.NO_SUCH, () -> x.about(0, 3, 6));
        check.throwing("about", Check.NO_SUCH, () -> x.about(0, -1, 0));
        check.throwing("about", Check.BOUNDS, () -> x.about(0, 0, 6));
        check.throwing("about", Check.BOUNDS, () -> x.about(0, 0, -1));
        check.throwing("events", Check.NO_SUCH, () -> x.events(4));
        check.throwing("events", Check.NO_SUCH, () -> x.events(-1));
        check.due("events", 3, x.events(0));
    }
}
