import java.util.NoSuchElementException;

/** Records clips onto disks and plays lists of events from them, as the document's promises say. */
public final class PlayoutStation {
    private static final int FRAMES = 5;
    private static final int BLACK = 0;
    private static final int DISKS = 6;
    private static final int DISK_ROOM = 24;
    private static final int CLIPS = 16;
    private static final int RECORDERS = 2;
    private static final int CHANNELS = 4;
    private static final int MOST_SECONDS = 30;
    private static final int MOST_EVENTS = 12;
    private static final int MOST_LOAD = 4;
    private static final int MOST_MOVES = 8;
    private static final int ROUNDS_AHEAD = 60;
    private static final int SETTLED_ROUNDS = 2;
    private static final int LATEST_TIME = 1000000;

    private static final int NONE = -1;
    private static final int UNTIMED = -1;

    private static final int NOT_THERE = 0;
    private static final int RECORDED = 1;
    private static final int READY = 2;

    private static final int WORKS = 0;
    private static final int FAILED = 1;
    private static final int NEW = 2;

    private static final int CLIP_IS_THERE = -1;
    private static final int NO_ROOM = -2;
    private static final int NO_TIME_TO_WRITE = -3;

    private static final int TAKEN = 0;
    private static final int CLIP_NOT_FIT = -1;
    private static final int OUT_OF_ORDER = -2;
    private static final int TOO_FAR_AHEAD = -3;
    private static final int TOO_LATE = -4;
    private static final int TOO_MUCH_LOAD = -5;

    private final Clip[] clips = new Clip[CLIPS];
    private final Disk[] disks = new Disk[DISKS];
    private final EventList[] lists = new EventList[CHANNELS];
    private final int[] clipOfRecorder = new int[RECORDERS];
    private final LoadTable loads = new LoadTable();
    // An edit is tried out here, so that a refused one leaves the channel's own list untouched.
    private EventList draft = new EventList();
    private int now;
    private int missedInAll;
    private int restoredInAll;

    public PlayoutStation() {
        for (int i = 0; i < CLIPS; i++) {
            clips[i] = new Clip();
        }
        for (int i = 0; i < DISKS; i++) {
            disks[i] = new Disk();
        }
        for (int i = 0; i < CHANNELS; i++) {
            lists[i] = new EventList();
        }
        for (int i = 0; i < RECORDERS; i++) {
            clipOfRecorder[i] = NONE;
        }
    }

    public int record(int recorder, int clip, int n) throws NoSuchElementException, IllegalStateException, IllegalArgumentException {
        needThereIs(recorder, RECORDERS);
        needThereIs(clip, CLIPS);
        if (clipOfRecorder[recorder] != NONE) {
            throw new IllegalStateException("the recorder is busy");
        }
        if (n < 1 || n > MOST_SECONDS) {
            throw new IllegalArgumentException("a recording has 1 to 30 seconds");
        }
        if (clips[clip].state != NOT_THERE) {
            return CLIP_IS_THERE;
        }
        int start = startFor(n);
        if (start >= 0) {
            clips[clip].beginRecording(n, start, now);
            clipOfRecorder[recorder] = clip;
        }
        return start;
    }

    public void feed(int recorder, int f, int frame) throws NoSuchElementException, IllegalStateException, IndexOutOfBoundsException {
        needThereIs(recorder, RECORDERS);
        int piece = pieceFedNow(recorder);
        if (piece == NONE) {
            throw new IllegalStateException("no second is recorded in this round");
        }
        needWithin(f, FRAMES - 1);
        clips[clipOfRecorder[recorder]].frames[FRAMES * piece + f] = frame;
    }

    public int stop(int recorder) throws NoSuchElementException, IllegalStateException {
        needThereIs(recorder, RECORDERS);
        int number = clipOfRecorder[recorder];
        if (number == NONE) {
            throw new IllegalStateException("the recorder is not busy");
        }
        Clip clip = clips[number];
        clip.seconds = Math.max(0, now - 1 - clip.takenIn);
        clipOfRecorder[recorder] = NONE;
        int kept = clip.seconds;
        if (kept == 0) {
            clip.vanish();
        }
        return kept;
    }

    public int event(int channel, int k, int clip, int in, int out, int time) throws NoSuchElementException, IllegalArgumentException {
        needThereIs(channel, CHANNELS);
        needThereIs(clip, CLIPS);
        needThereIs(k, lists[channel].size + 1);
        if (in < 0 || out <= in || time < UNTIMED || time > LATEST_TIME) {
            throw new IllegalArgumentException("in, out or time can't be");
        }
        if (clips[clip].state != READY || out > FRAMES * clips[clip].seconds) {
            return CLIP_NOT_FIT;
        }
        draft.copyFrom(lists[channel]);
        draft.openPlace(k).become(clip, in, out, time);
        return takeDraft(channel);
    }

    public int remove(int channel, int k) throws NoSuchElementException {
        needThereIs(channel, CHANNELS);
        needThereIs(k, lists[channel].size);
        draft.copyFrom(lists[channel]);
        draft.closePlace(k);
        return takeDraft(channel);
    }

    public int swap(int channel, int k) throws NoSuchElementException {
        needThereIs(channel, CHANNELS);
        needThereIs(k, lists[channel].size - 1);
        draft.copyFrom(lists[channel]);
        draft.exchangeWithNext(k);
        return takeDraft(channel);
    }

    public int round() {
        return passRound();
    }

    public int rounds(int n) throws IllegalArgumentException {
        if (n < 0 || n > ROUNDS_AHEAD) {
            throw new IllegalArgumentException("0 to 60 rounds go by at once");
        }
        int moved = 0;
        for (int i = 0; i < n; i++) {
            moved += passRound();
        }
        return moved;
    }

    public int shown(int channel, int f) throws NoSuchElementException, IndexOutOfBoundsException {
        needThereIs(channel, CHANNELS);
        needWithin(f, FRAMES - 1);
        int time = FRAMES * now + f;
        int k = lists[channel].indexAt(time);
        if (k == NONE) {
            return BLACK;
        }
        Event event = lists[channel].rows[k];
        int frame = event.frameAt(time);
        return event.hasMissed(frame / FRAMES) ? BLACK : clips[event.clip].frames[frame];
    }

    public int about(int channel, int k, int what) throws NoSuchElementException, IndexOutOfBoundsException {
        needThereIs(channel, CHANNELS);
        needThereIs(k, lists[channel].size);
        needWithin(what, 5);
        Event event = lists[channel].rows[k];
        switch (what) {
            case 0: return event.clip;
            case 1: return event.in;
            case 2: return event.out;
            case 3: return event.time;
            case 4: return event.begin;
            default: return Integer.bitCount(event.missedPieces);
        }
    }

    public int events(int channel) throws NoSuchElementException {
        needThereIs(channel, CHANNELS);
        return lists[channel].size;
    }

    public int clip(int clip, int what) throws NoSuchElementException, IndexOutOfBoundsException {
        needThereIs(clip, CLIPS);
        needWithin(what, 2);
        switch (what) {
            case 0: return clips[clip].state;
            case 1: return clips[clip].seconds;
            default: return clips[clip].start;
        }
    }

    public boolean delete(int clip) throws NoSuchElementException {
        needThereIs(clip, CLIPS);
        if (clips[clip].state != READY || isInSomeList(clip)) {
            return false;
        }
        clips[clip].vanish();
        for (int d = 0; d < DISKS; d++) {
            disks[d].pieces[clip] = 0;
        }
        return true;
    }

    public int load(int disk, int t) throws NoSuchElementException, IndexOutOfBoundsException {
        needThereIs(disk, DISKS);
        needWithin(t, ROUNDS_AHEAD);
        countLoads(NONE);
        return loads.counts[disk][t];
    }

    public int disk(int disk, int what) throws NoSuchElementException, IndexOutOfBoundsException {
        needThereIs(disk, DISKS);
        needWithin(what, 2);
        switch (what) {
            case 0: return disks[disk].state;
            case 1: return roomOn(disk);
            default: return disks[disk].countPieces();
        }
    }

    public void fail(int disk) throws NoSuchElementException, IllegalStateException {
        needThereIs(disk, DISKS);
        if (diskThatIs(FAILED) != NONE || diskThatIs(NEW) != NONE) {
            throw new IllegalStateException("not all disks work");
        }
        disks[disk].state = FAILED;
        disks[disk].loseAll();
    }

    public int replace() throws IllegalStateException {
        int failed = diskThatIs(FAILED);
        if (failed == NONE) {
            throw new IllegalStateException("no disk has failed");
        }
        disks[failed].state = NEW;
        return failed;
    }

    public int many(int what) throws IndexOutOfBoundsException {
        needWithin(what, 2);
        switch (what) {
            case 0: return now;
            case 1: return missedInAll;
            default: return restoredInAll;
        }
    }

    private static void needThereIs(int number, int howMany) {
        if (number < 0 || number >= howMany) {
            throw new NoSuchElementException("there is none with this number");
        }
    }

    private static void needWithin(int number, int highest) {
        if (number < 0 || number > highest) {
            throw new IndexOutOfBoundsException("the number is out of its bounds");
        }
    }

    private int pieceFedNow(int recorder) {
        int number = clipOfRecorder[recorder];
        return number == NONE ? NONE : clips[number].pieceFedIn(now);
    }

    private int startFor(int seconds) {
        countLoads(NONE);
        int refusal = NO_ROOM;
        for (int start = 0; start < DISKS; start++) {
            if (hasRoomFor(seconds, start)) {
                if (loads.allowRecording(seconds, start)) {
                    return start;
                }
                refusal = NO_TIME_TO_WRITE;
            }
        }
        return refusal;
    }

    private boolean hasRoomFor(int seconds, int start) {
        for (int d = 0; d < DISKS; d++) {
            if (lyingOn(d, seconds, start) > roomOn(d)) {
                return false;
            }
        }
        return true;
    }

    private int roomOn(int disk) {
        int room = DISK_ROOM;
        for (int c = 0; c < CLIPS; c++) {
            room -= lyingOn(disk, clips[c].seconds, clips[c].start);
        }
        return room;
    }

    private static int lyingOn(int disk, int seconds, int start) {
        int count = 0;
        for (int piece = 0; piece < seconds; piece++) {
            if (diskOf(start, piece) == disk || copyDiskOf(start, piece) == disk) {
                count++;
            }
        }
        return count;
    }

    private static int diskOf(int start, int piece) {
        return (start + piece) % DISKS;
    }

    private static int copyDiskOf(int start, int piece) {
        return (start + piece + 1) % DISKS;
    }

    private boolean isInSomeList(int clip) {
        for (int c = 0; c < CHANNELS; c++) {
            if (lists[c].hasClip(clip)) {
                return true;
            }
        }
        return false;
    }

    private int diskThatIs(int state) {
        for (int d = 0; d < DISKS; d++) {
            if (disks[d].state == state) {
                return d;
            }
        }
        return NONE;
    }

    private int takeDraft(int channel) {
        int answer = judgeDraft(channel);
        if (answer == TAKEN) {
            EventList old = lists[channel];
            lists[channel] = draft;
            draft = old;
        }
        return answer;
    }

    private int judgeDraft(int channel) {
        if (draft.size > MOST_EVENTS || !draft.layOut()) {
            return OUT_OF_ORDER;
        }
        if (draft.lastEnd() > FRAMES * (now + ROUNDS_AHEAD)) {
            return TOO_FAR_AHEAD;
        }
        int settled = FRAMES * (now + SETTLED_ROUNDS);
        if (!draft.showsAllOf(lists[channel], settled) || !lists[channel].showsAllOf(draft, settled)) {
            return TOO_LATE;
        }
        countLoads(channel);
        return loads.isTooMuch() ? TOO_MUCH_LOAD : TAKEN;
    }

    /** Counts the draft in the place of the list of one channel, or all lists as they are for NONE. */
    private void countLoads(int draftedChannel) {
        loads.clear();
        for (int c = 0; c < CHANNELS; c++) {
            loads.addFetches(c == draftedChannel ? draft : lists[c], clips, now);
        }
        loads.addWrites(clips, now);
    }

    private int passRound() {
        for (int d = 0; d < DISKS; d++) {
            disks[d].moves = 0;
        }
        int moved = fetchAll() + writeAll();
        restoreNewDisk();
        now++;
        freeRecorders();
        for (int c = 0; c < CHANNELS; c++) {
            lists[c].dropEnded(FRAMES * now);
        }
        return moved;
    }

    private int fetchAll() {
        int moved = 0;
        for (int c = 0; c < CHANNELS; c++) {
            for (int k = 0; k < lists[c].size; k++) {
                moved += fetchFor(lists[c].rows[k]);
            }
        }
        return moved;
    }

    private int fetchFor(Event event) {
        int moved = 0;
        for (int piece = event.firstPiece(); piece <= event.lastPiece(); piece++) {
            if (event.fetchRound(piece) == now) {
                if (readPiece(event.clip, piece)) {
                    moved++;
                } else {
                    event.miss(piece);
                    missedInAll++;
                }
            }
        }
        return moved;
    }

    private boolean readPiece(int clip, int piece) {
        Disk first = disks[diskOf(clips[clip].start, piece)];
        Disk second = disks[copyDiskOf(clips[clip].start, piece)];
        return first.givesPiece(clip, piece) || second.givesPiece(clip, piece);
    }

    private int writeAll() {
        int moved = 0;
        for (int c = 0; c < CLIPS; c++) {
            if (clips[c].isWrittenIn(now)) {
                int piece = clips[c].written;
                moved += disks[diskOf(clips[c].start, piece)].takePiece(c, piece);
                moved += disks[copyDiskOf(clips[c].start, piece)].takePiece(c, piece);
                clips[c].noteWritten();
            }
        }
        return moved;
    }

    private void restoreNewDisk() {
        int fresh = diskThatIs(NEW);
        if (fresh == NONE) {
            return;
        }
        boolean lacking = false;
        for (int c = 0; c < CLIPS; c++) {
            for (int piece = 0; piece < clips[c].written; piece++) {
                if (lacks(fresh, c, piece) && !restorePiece(fresh, c, piece)) {
                    lacking = true;
                }
            }
        }
        if (!lacking) {
            disks[fresh].state = WORKS;
        }
    }

    private boolean lacks(int disk, int clip, int piece) {
        int start = clips[clip].start;
        boolean liesThere = diskOf(start, piece) == disk || copyDiskOf(start, piece) == disk;
        return liesThere && !disks[disk].hasPiece(clip, piece);
    }

    private boolean restorePiece(int fresh, int clip, int piece) {
        int first = diskOf(clips[clip].start, piece);
        Disk source = disks[first == fresh ? copyDiskOf(clips[clip].start, piece) : first];
        Disk target = disks[fresh];
        if (source.moves >= MOST_MOVES || target.moves >= MOST_MOVES || !source.givesPiece(clip, piece)) {
            return false;
        }
        target.takePiece(clip, piece);
        restoredInAll++;
        return true;
    }

    private void freeRecorders() {
        for (int r = 0; r < RECORDERS; r++) {
            int number = clipOfRecorder[r];
            if (number != NONE && now > clips[number].takenIn + clips[number].seconds) {
                clipOfRecorder[r] = NONE;
            }
        }
    }

    private static final class Clip {
        final int[] frames = new int[MOST_SECONDS * FRAMES];
        int state = NOT_THERE;
        int seconds;
        int start;
        int takenIn;
        // Pieces are written in their order, so a count tells which ones were, and which is next.
        int written;

        void beginRecording(int newSeconds, int newStart, int round) {
            for (int i = 0; i < frames.length; i++) {
                frames[i] = BLACK;
            }
            state = RECORDED;
            seconds = newSeconds;
            start = newStart;
            takenIn = round;
            written = 0;
        }

        void vanish() {
            state = NOT_THERE;
            seconds = 0;
            start = 0;
            written = 0;
        }

        int pieceFedIn(int round) {
            int piece = round - takenIn - 1;
            return state == RECORDED && piece >= 0 && piece < seconds ? piece : NONE;
        }

        int writeRound(int piece) {
            return takenIn + 2 + piece;
        }

        boolean isWrittenIn(int round) {
            return written < seconds && writeRound(written) == round;
        }

        void noteWritten() {
            written++;
            if (written == seconds) {
                state = READY;
            }
        }
    }

    private static final class Disk {
        // A bit for each piece of each clip: a piece and its copy never lie on the same disk.
        final int[] pieces = new int[CLIPS];
        int state = WORKS;
        int moves;

        boolean hasPiece(int clip, int piece) {
            return (pieces[clip] >> piece & 1) != 0;
        }

        boolean givesPiece(int clip, int piece) {
            if (state == FAILED || !hasPiece(clip, piece)) {
                return false;
            }
            moves++;
            return true;
        }

        int takePiece(int clip, int piece) {
            if (state == FAILED) {
                return 0;
            }
            pieces[clip] |= 1 << piece;
            moves++;
            return 1;
        }

        void loseAll() {
            for (int c = 0; c < CLIPS; c++) {
                pieces[c] = 0;
            }
        }

        int countPieces() {
            int count = 0;
            for (int c = 0; c < CLIPS; c++) {
                count += Integer.bitCount(pieces[c]);
            }
            return count;
        }
    }

    private static final class Event {
        int clip;
        int in;
        int out;
        int time;
        int begin;
        int missedPieces;

        void become(int newClip, int newIn, int newOut, int newTime) {
            clip = newClip;
            in = newIn;
            out = newOut;
            time = newTime;
            begin = newTime;
            missedPieces = 0;
        }

        void copyFrom(Event other) {
            become(other.clip, other.in, other.out, other.time);
            begin = other.begin;
            missedPieces = other.missedPieces;
        }

        int end() {
            return begin + out - in;
        }

        int frameAt(int when) {
            return in + when - begin;
        }

        int firstPiece() {
            return in / FRAMES;
        }

        int lastPiece() {
            return (out - 1) / FRAMES;
        }

        int fetchRound(int piece) {
            int firstFrame = Math.max(in, FRAMES * piece);
            return (begin + firstFrame - in) / FRAMES - 1;
        }

        void miss(int piece) {
            missedPieces |= 1 << piece;
        }

        boolean hasMissed(int piece) {
            return (missedPieces >> piece & 1) != 0;
        }
    }

    private static final class EventList {
        // One row more than a list may have: an edit is judged after it was laid out.
        final Event[] rows = new Event[MOST_EVENTS + 1];
        int size;

        EventList() {
            for (int i = 0; i < rows.length; i++) {
                rows[i] = new Event();
            }
        }

        void copyFrom(EventList other) {
            size = other.size;
            for (int i = 0; i < size; i++) {
                rows[i].copyFrom(other.rows[i]);
            }
        }

        Event openPlace(int k) {
            Event unused = rows[size];
            for (int i = size; i > k; i--) {
                rows[i] = rows[i - 1];
            }
            rows[k] = unused;
            size++;
            return unused;
        }

        void closePlace(int k) {
            Event unused = rows[k];
            size--;
            for (int i = k; i < size; i++) {
                rows[i] = rows[i + 1];
            }
            rows[size] = unused;
        }

        void exchangeWithNext(int k) {
            Event event = rows[k];
            rows[k] = rows[k + 1];
            rows[k + 1] = event;
        }

        /** Finds when each event begins; tells whether all of them can, one behind the other. */
        boolean layOut() {
            if (size > 0 && rows[0].time == UNTIMED) {
                return false;
            }
            int free = 0;
            for (int i = 0; i < size; i++) {
                rows[i].begin = rows[i].time == UNTIMED ? free : rows[i].time;
                if (rows[i].begin < free) {
                    return false;
                }
                free = rows[i].end();
            }
            return true;
        }

        int lastEnd() {
            return size == 0 ? 0 : rows[size - 1].end();
        }

        int indexAt(int when) {
            for (int i = 0; i < size; i++) {
                if (rows[i].begin <= when && when < rows[i].end()) {
                    return i;
                }
            }
            return NONE;
        }

        boolean showsAllOf(EventList other, int limit) {
            for (int i = 0; i < other.size; i++) {
                Event event = other.rows[i];
                int end = Math.min(event.end(), limit);
                for (int when = event.begin; when < end; when++) {
                    if (!showsAt(when, event.clip, event.frameAt(when))) {
                        return false;
                    }
                }
            }
            return true;
        }

        private boolean showsAt(int when, int clip, int frame) {
            int k = indexAt(when);
            return k != NONE && rows[k].clip == clip && rows[k].frameAt(when) == frame;
        }

        boolean hasClip(int clip) {
            for (int i = 0; i < size; i++) {
                if (rows[i].clip == clip) {
                    return true;
                }
            }
            return false;
        }

        void dropEnded(int when) {
            int ended = 0;
            while (ended < size && rows[ended].end() <= when) {
                ended++;
            }
            for (int i = 0; i < ended; i++) {
                closePlace(0);
            }
            if (size > 0) {
                rows[0].time = rows[0].begin;
            }
        }
    }

    /** The loads of all disks in this round and the next ones, counted anew whenever they are asked for. */
    private static final class LoadTable {
        final int[][] counts = new int[DISKS][ROUNDS_AHEAD + 1];

        void clear() {
            for (int d = 0; d < DISKS; d++) {
                for (int t = 0; t <= ROUNDS_AHEAD; t++) {
                    counts[d][t] = 0;
                }
            }
        }

        void addFetches(EventList list, Clip[] clips, int now) {
            for (int k = 0; k < list.size; k++) {
                Event event = list.rows[k];
                int start = clips[event.clip].start;
                for (int piece = event.firstPiece(); piece <= event.lastPiece(); piece++) {
                    addOne(diskOf(start, piece), event.fetchRound(piece) - now);
                }
            }
        }

        void addWrites(Clip[] clips, int now) {
            for (int c = 0; c < CLIPS; c++) {
                for (int piece = clips[c].written; piece < clips[c].seconds; piece++) {
                    int t = clips[c].writeRound(piece) - now;
                    addOne(diskOf(clips[c].start, piece), t);
                    addOne(copyDiskOf(clips[c].start, piece), t);
                }
            }
        }

        private void addOne(int disk, int t) {
            // What was fetched in rounds gone by is no load any more.
            if (t >= 0 && t <= ROUNDS_AHEAD) {
                counts[disk][t]++;
            }
        }

        boolean isTooMuch() {
            for (int d = 0; d < DISKS; d++) {
                for (int t = 1; t <= ROUNDS_AHEAD; t++) {
                    if (counts[d][t] > MOST_LOAD) {
                        return true;
                    }
                }
            }
            return false;
        }

        boolean allowRecording(int seconds, int start) {
            for (int piece = 0; piece < seconds; piece++) {
                // The first piece is fed in the next round, and written in the one behind that.
                int t = piece + 2;
                if (counts[diskOf(start, piece)][t] >= MOST_LOAD || counts[copyDiskOf(start, piece)][t] >= MOST_LOAD) {
                    return false;
                }
            }
            return true;
        }
    }
}
