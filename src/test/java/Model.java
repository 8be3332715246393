import java.util.ArrayList;
import java.util.HashMap;
import java.util.HashSet;
import java.util.List;
import java.util.Map;
import java.util.NoSuchElementException;
import java.util.Set;
import java.util.TreeMap;

/**
 * The document once more, written otherwise than the program: frame by frame, with sets of named pieces and
 * a diary of what is to be written, so that a slip in one of the two shows as a difference.
 */
public final class Model {
    private record Piece(int clip, int number) { }

    private static final class Clip {
        boolean ready;
        int seconds;
        int start;
        int[] frames;
    }

    private static final class Recording {
        int clip;
        int taken;
        int seconds;
    }

    private static final class Event {
        int clip;
        int in;
        int out;
        int time;
        Set<Integer> missed = new HashSet<>();
    }

    private int r;
    private int missed;
    private int restored;
    private int failed = -1;
    private int fresh = -1;
    private final Map<Integer, Clip> clips = new TreeMap<>();
    private final Map<Integer, Recording> recordings = new HashMap<>();
    private final Map<Integer, List<Piece>> diary = new HashMap<>();
    private final Set<Piece> everWritten = new HashSet<>();
    private final List<Set<Piece>> disks = new ArrayList<>();
    private final List<List<Event>> channels = new ArrayList<>();

    public Model() {
        for (int d = 0; d < 6; d++) {
            disks.add(new HashSet<>());
        }
        for (int c = 0; c < 4; c++) {
            channels.add(new ArrayList<>());
        }
    }

    public int record(int recorder, int clip, int n) {
        exists(recorder >= 0 && recorder < 2 && clip >= 0 && clip < 16);
        if (isBusy(recorder)) throw new IllegalStateException();
        if (n < 1 || n > 30) throw new IllegalArgumentException();
        if (clips.containsKey(clip)) return -1;
        boolean room = false;
        for (int s = 0; s < 6; s++) {
            Clip c = new Clip();
            c.seconds = n;
            c.start = s;
            c.frames = new int[5 * n];
            clips.put(clip, c);
            for (int j = 0; j < n; j++) diary.computeIfAbsent(r + 2 + j, k -> new ArrayList<>()).add(new Piece(clip, j));
            boolean fits = true;
            for (int d = 0; d < 6; d++) fits &= room(d) >= 0;
            room |= fits;
            if (fits && loadsAreFine(channels)) {
                Recording recording = new Recording();
                recording.clip = clip;
                recording.taken = r;
                recording.seconds = n;
                recordings.put(recorder, recording);
                everWritten.removeIf(p -> p.clip == clip);
                return s;
            }
            clips.remove(clip);
            for (List<Piece> day : diary.values()) day.removeIf(p -> p.clip == clip);
        }
        return room ? -3 : -2;
    }

    public void feed(int recorder, int f, int frame) {
        exists(recorder >= 0 && recorder < 2);
        if (!isBusy(recorder) || recordings.get(recorder).taken == r) throw new IllegalStateException();
        if (f < 0 || f > 4) throw new IndexOutOfBoundsException();
        Recording recording = recordings.get(recorder);
        clips.get(recording.clip).frames[5 * (r - recording.taken - 1) + f] = frame;
    }

    public int stop(int recorder) {
        exists(recorder >= 0 && recorder < 2);
        if (!isBusy(recorder)) throw new IllegalStateException();
        Recording recording = recordings.remove(recorder);
        int kept = 0;
        for (int q = recording.taken + 1; q < r; q++) kept++;
        for (int q = r + 1; q < r + 40; q++) {
            if (diary.containsKey(q)) diary.get(q).removeIf(p -> p.clip == recording.clip);
        }
        if (kept == 0) clips.remove(recording.clip);
        else clips.get(recording.clip).seconds = kept;
        return kept;
    }

    public int event(int channel, int k, int clip, int in, int out, int time) {
        exists(channel >= 0 && channel < 4 && clip >= 0 && clip < 16 && k >= 0 && k <= channels.get(channel).size());
        if (in < 0 || out <= in || time < -1 || time > 1000000) throw new IllegalArgumentException();
        Clip c = clips.get(clip);
        if (c == null || !c.ready || out > 5 * c.seconds) return -1;
        Event e = new Event();
        e.clip = clip;
        e.in = in;
        e.out = out;
        e.time = time;
        List<Event> edited = new ArrayList<>(channels.get(channel));
        edited.add(k, e);
        return edit(channel, edited);
    }

    public int remove(int channel, int k) {
        exists(channel >= 0 && channel < 4 && k >= 0 && k < channels.get(channel).size());
        List<Event> edited = new ArrayList<>(channels.get(channel));
        edited.remove(k);
        return edit(channel, edited);
    }

    public int swap(int channel, int k) {
        exists(channel >= 0 && channel < 4 && k >= 0 && k < channels.get(channel).size() - 1);
        List<Event> edited = new ArrayList<>(channels.get(channel));
        edited.add(k, edited.remove(k + 1));
        return edit(channel, edited);
    }

    public int round() {
        int[] moves = new int[6];
        int moved = 0;
        for (List<Event> list : channels) {
            for (int k = 0; k < list.size(); k++) {
                for (Map.Entry<Integer, Integer> fetch : fetches(list, k).entrySet()) {
                    if (fetch.getValue() == r) moved += fetch(list.get(k), fetch.getKey(), moves);
                }
            }
        }
        for (Piece p : diary.getOrDefault(r, List.of())) {
            for (int d : places(p)) {
                if (d != failed) {
                    disks.get(d).add(p);
                    moves[d]++;
                    moved++;
                }
            }
            everWritten.add(p);
            if (p.number == clips.get(p.clip).seconds - 1) clips.get(p.clip).ready = true;
        }
        if (fresh >= 0) restore(moves);
        r++;
        for (List<Event> list : channels) {
            while (!list.isEmpty() && begin(list, 0) + length(list.get(0)) <= 5 * r) {
                int next = list.size() > 1 ? begin(list, 1) : 0;
                list.remove(0);
                if (!list.isEmpty()) list.get(0).time = next;
            }
        }
        return moved;
    }

    public int rounds(int n) {
        if (n < 0 || n > 60) throw new IllegalArgumentException();
        int moved = 0;
        while (n-- > 0) moved += round();
        return moved;
    }

    public int shown(int channel, int f) {
        exists(channel >= 0 && channel < 4);
        if (f < 0 || f > 4) throw new IndexOutOfBoundsException();
        List<Event> list = channels.get(channel);
        for (int k = 0; k < list.size(); k++) {
            Event e = list.get(k);
            for (int frame = e.in; frame < e.out; frame++) {
                if (begin(list, k) + frame - e.in == 5 * r + f) {
                    return e.missed.contains(frame / 5) ? 0 : clips.get(e.clip).frames[frame];
                }
            }
        }
        return 0;
    }

    public int about(int channel, int k, int what) {
        exists(channel >= 0 && channel < 4 && k >= 0 && k < channels.get(channel).size());
        if (what < 0 || what > 5) throw new IndexOutOfBoundsException();
        Event e = channels.get(channel).get(k);
        return new int[] {e.clip, e.in, e.out, e.time, begin(channels.get(channel), k), e.missed.size()}[what];
    }

    public int events(int channel) {
        exists(channel >= 0 && channel < 4);
        return channels.get(channel).size();
    }

    public int clip(int clip, int what) {
        exists(clip >= 0 && clip < 16);
        if (what < 0 || what > 2) throw new IndexOutOfBoundsException();
        Clip c = clips.get(clip);
        return c == null ? 0 : new int[] {c.ready ? 2 : 1, c.seconds, c.start}[what];
    }

    public boolean delete(int clip) {
        exists(clip >= 0 && clip < 16);
        if (!clips.containsKey(clip) || !clips.get(clip).ready) return false;
        for (List<Event> list : channels) {
            for (Event e : list) {
                if (e.clip == clip) return false;
            }
        }
        clips.remove(clip);
        for (Set<Piece> disk : disks) disk.removeIf(p -> p.clip == clip);
        return true;
    }

    public int load(int disk, int t) {
        exists(disk >= 0 && disk < 6);
        if (t < 0 || t > 60) throw new IndexOutOfBoundsException();
        return loadIn(channels, disk, r + t);
    }

    public int disk(int disk, int what) {
        exists(disk >= 0 && disk < 6);
        if (what < 0 || what > 2) throw new IndexOutOfBoundsException();
        if (what == 0) return disk == failed ? 1 : disk == fresh ? 2 : 0;
        return what == 1 ? room(disk) : disks.get(disk).size();
    }

    public void fail(int disk) {
        exists(disk >= 0 && disk < 6);
        if (failed >= 0 || fresh >= 0) throw new IllegalStateException();
        failed = disk;
        disks.get(disk).clear();
    }

    public int replace() {
        if (failed < 0) throw new IllegalStateException();
        fresh = failed;
        failed = -1;
        return fresh;
    }

    public int many(int what) {
        if (what < 0 || what > 2) throw new IndexOutOfBoundsException();
        return new int[] {r, missed, restored}[what];
    }

    private static void exists(boolean does) {
        if (!does) throw new NoSuchElementException();
    }

    private boolean isBusy(int recorder) {
        Recording recording = recordings.get(recorder);
        return recording != null && r <= recording.taken + recording.seconds;
    }

    private int[] places(Piece p) {
        int d = (clips.get(p.clip).start + p.number) % 6;
        return new int[] {d, (d + 1) % 6};
    }

    private int room(int disk) {
        int room = 24;
        for (Map.Entry<Integer, Clip> c : clips.entrySet()) {
            for (int j = 0; j < c.getValue().seconds; j++) {
                for (int d : places(new Piece(c.getKey(), j))) {
                    if (d == disk) room--;
                }
            }
        }
        return room;
    }

    private static int length(Event e) {
        return e.out - e.in;
    }

    private static int begin(List<Event> list, int k) {
        Event e = list.get(k);
        if (e.time >= 0) return e.time;
        return begin(list, k - 1) + length(list.get(k - 1));
    }

    /** By pieces: the round in which an event's piece is fetched. */
    private static Map<Integer, Integer> fetches(List<Event> list, int k) {
        Map<Integer, Integer> fetches = new TreeMap<>();
        Event e = list.get(k);
        for (int i = 0; i < length(e); i++) {
            fetches.putIfAbsent((e.in + i) / 5, (begin(list, k) + i) / 5 - 1);
        }
        return fetches;
    }

    private int fetch(Event e, int number, int[] moves) {
        Piece p = new Piece(e.clip, number);
        for (int d : places(p)) {
            if (disks.get(d).contains(p)) {
                moves[d]++;
                return 1;
            }
        }
        e.missed.add(number);
        missed++;
        return 0;
    }

    private void restore(int[] moves) {
        boolean lacking = false;
        for (Map.Entry<Integer, Clip> c : clips.entrySet()) {
            for (int j = 0; j < c.getValue().seconds; j++) {
                Piece p = new Piece(c.getKey(), j);
                int[] places = places(p);
                boolean liesHere = places[0] == fresh || places[1] == fresh;
                if (!liesHere || !everWritten.contains(p) || disks.get(fresh).contains(p)) continue;
                int other = places[0] + places[1] - fresh;
                if (disks.get(other).contains(p) && moves[other] < 8 && moves[fresh] < 8) {
                    disks.get(fresh).add(p);
                    moves[other]++;
                    moves[fresh]++;
                    restored++;
                } else {
                    lacking = true;
                }
            }
        }
        if (!lacking) fresh = -1;
    }

    private int edit(int channel, List<Event> edited) {
        if (edited.size() > 12 || !edited.isEmpty() && edited.get(0).time < 0) return -2;
        for (int k = 1; k < edited.size(); k++) {
            if (begin(edited, k) < begin(edited, k - 1) + length(edited.get(k - 1))) return -2;
        }
        for (int k = 0; k < edited.size(); k++) {
            if (begin(edited, k) + length(edited.get(k)) > 5 * (r + 60)) return -3;
        }
        if (!shownSoon(edited).equals(shownSoon(channels.get(channel)))) return -4;
        List<List<Event>> all = new ArrayList<>(channels);
        all.set(channel, edited);
        if (!loadsAreFine(all)) return -5;
        channels.set(channel, edited);
        return 0;
    }

    private Map<Integer, Piece> shownSoon(List<Event> list) {
        Map<Integer, Piece> shown = new HashMap<>();
        for (int k = 0; k < list.size(); k++) {
            for (int i = 0; i < length(list.get(k)); i++) {
                int t = begin(list, k) + i;
                if (t < 5 * (r + 2)) shown.put(t, new Piece(list.get(k).clip, list.get(k).in + i));
            }
        }
        return shown;
    }

    private boolean loadsAreFine(List<List<Event>> all) {
        for (int d = 0; d < 6; d++) {
            Map<Integer, Integer> loads = loads(all, d);
            for (Map.Entry<Integer, Integer> load : loads.entrySet()) {
                if (load.getKey() > r && load.getValue() > 4) return false;
            }
        }
        return true;
    }

    private int loadIn(List<List<Event>> all, int disk, int round) {
        return loads(all, disk).getOrDefault(round, 0);
    }

    /** By rounds: how much a disk has to do. */
    private Map<Integer, Integer> loads(List<List<Event>> all, int disk) {
        Map<Integer, Integer> loads = new HashMap<>();
        for (List<Event> list : all) {
            for (int k = 0; k < list.size(); k++) {
                for (Map.Entry<Integer, Integer> fetch : fetches(list, k).entrySet()) {
                    int d = places(new Piece(list.get(k).clip, fetch.getKey()))[0];
                    if (d == disk) loads.merge(fetch.getValue(), 1, Integer::sum);
                }
            }
        }
        for (int round = r; round < r + 40; round++) {
            for (Piece p : diary.getOrDefault(round, List.of())) {
                for (int d : places(p)) {
                    if (d == disk) loads.merge(round, 1, Integer::sum);
                }
            }
        }
        return loads;
    }
}
