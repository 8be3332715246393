import java.lang.reflect.Field;

/**
 * What a missed piece does. Since fail throws while a disk has failed or is new, no run of calls comes to miss one;
 * so this test lets a second disk fail behind the face's back.
 */
public final class MissedTest {
    private static final Check check = new Check();

    public static void main(String[] args) throws ReflectiveOperationException {
        aMissedPieceIsBlack();
        anEditChangesNothingOfIt();
        check.end();
    }

    private static void failToo(PlayoutStation x, int disk) throws ReflectiveOperationException {
        Field disks = PlayoutStation.class.getDeclaredField("disks");
        disks.setAccessible(true);
        Object second = ((Object[]) disks.get(x))[disk];
        Field state = second.getClass().getDeclaredField("state");
        state.setAccessible(true);
        state.setInt(second, 1);
    }

    private static void shown(PlayoutStation x, int channel, int firstFrame) {
        for (int f = 0; f < 5; f++) {
            check.due("frame " + f, firstFrame < 0 ? 0 : Check.frameOf(0, firstFrame + f), x.shown(channel, f));
        }
    }

    private static void missed(PlayoutStation x, int first, int second) {
        check.due("pieces that were missed", first + second, x.many(1));
        if (x.events(0) > 0) {
            check.due("missed by the first channel", first, x.about(0, 0, 5));
        }
        if (x.events(1) > 0) {
            check.due("missed by the second channel", second, x.about(1, 0, 5));
        }
    }

    /** Piece 2 lies on disk 2, and its copy on disk 3. */
    private static PlayoutStation withoutPieceTwo() throws ReflectiveOperationException {
        PlayoutStation x = Check.withClip(0, 6);
        x.fail(2);
        failToo(x, 3);
        return x;
    }

    private static void aMissedPieceIsBlack() throws ReflectiveOperationException {
        PlayoutStation x = withoutPieceTwo();
        check.due("pieces 1, 2, 3", 0, x.event(0, 0, 0, 5, 20, Check.time(x, 2, 0)));
        check.due("piece 2", 0, x.event(1, 0, 0, 10, 15, Check.time(x, 2, 0)));
        check.due("load of a piece that will be missed", 1, x.load(2, 1));
        check.due("nothing is fetched", 0, x.round());
        missed(x, 0, 0);
        check.due("piece 1 is fetched, piece 2 is missed", 1, x.round());
        missed(x, 0, 1);
        shown(x, 0, 5);
        shown(x, 1, -1);
        check.due("piece 2 is missed", 0, x.round());
        missed(x, 1, 1);
        shown(x, 0, -1);
        check.due("the copy of piece 3 is fetched", 1, x.round());
        missed(x, 1, 1);
        shown(x, 0, 15);
        x.round();
        check.due("the events have gone", 0, x.events(0) + x.events(1));
        missed(x, 1, 1);
    }

    private static void anEditChangesNothingOfIt() throws ReflectiveOperationException {
        PlayoutStation x = withoutPieceTwo();
        check.due("piece 2", 0, x.event(0, 0, 0, 10, 15, Check.time(x, 2, 0)));
        x.rounds(2);
        check.due("behind it", 0, x.event(0, 1, 0, 0, 5, Check.time(x, 2, 0)));
        check.due("missed", 1, x.about(0, 0, 5));
        shown(x, 0, -1);
        check.due("of another event", 0, x.about(0, 1, 5));
        check.due("away", 0, x.remove(0, 1));
        check.due("missed", 1, x.about(0, 0, 5));
        check.due("not taken", -4, x.remove(0, 0));
        check.due("missed", 1, x.about(0, 0, 5));
        shown(x, 0, -1);
        x.round();
        for (int k = 0; k < 3; k++) {
            check.due("later", 0, x.event(0, k, 0, 0, 5, k == 0 ? Check.time(x, 2, 0) : -1));
        }
        for (int k = 0; k < 3; k++) {
            check.due("of a later event", 0, x.about(0, k, 5));
        }
        check.due("missed in all", 1, x.many(1));
    }
}
