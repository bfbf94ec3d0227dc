import java.util.ArrayList;
import java.util.List;

/** The document told once more, in lists and without care for room: what PointReports is compared with. */
final class PlainModel {
    private static final int BAD = -1;

    private static final class Flight {
        final boolean toStation;
        final int[] bytes;

        Flight(boolean toStation, int[] bytes) {
            this.toStation = toStation;
            this.bytes = bytes;
        }
    }

    private static final class Happened {
        final int point, value, time;
        boolean waits;

        Happened(int point, int value, int time) {
            this.point = point;
            this.value = value;
            this.time = time;
        }
    }

    private static final class Gathering {
        List<Integer> bytes = null;
        int last;
    }

    private int time;
    private final int[] cls = new int[10], value = new int[10], changed = new int[10];
    private final List<List<Happened>> kept = new ArrayList<>();
    private boolean may, lost, somethingWaits, reportWaits;
    private int waitSeq, sentAt, again, reports, lostInAll;
    private List<Integer> report;

    private int readings;
    private boolean answered = true;
    private final int[] seen = new int[10], seenTime = new int[10];
    private final List<int[]> taken = new ArrayList<>();
    private int cameAgain, byte1, byte2;

    private final List<Flight> line = new ArrayList<>();
    private final int[] segments = new int[2];
    private final Gathering[] gathering = {new Gathering(), new Gathering()};
    private List<Integer> fed = new ArrayList<>();
    private int framesDropped, fragmentsDropped;

    PlainModel() {
        for (int c = 0; c < 4; c++) {
            kept.add(new ArrayList<>());
        }
        for (int p = 0; p < 10; p++) {
            changed[p] = -1;
            seenTime[p] = -1;
        }
    }

    private static boolean isPoint(int p) {
        return p >= 0 && p < 10;
    }

    boolean kind(int p, int c) {
        if (!isPoint(p) || c < 0 || c > 3) {
            return false;
        }
        cls[p] = c;
        return true;
    }

    boolean change(int p, int v) {
        if (!isPoint(p) || v < 0 || v > 65535 || changed[p] == time) {
            return false;
        }
        value[p] = v;
        changed[p] = time;
        if (cls[p] == 0) {
            return true;
        }
        kept.get(cls[p]).add(new Happened(p, v, time));
        if (kept.get(cls[p]).size() > 8) {
            kept.get(cls[p]).remove(0);
            lost = true;
            lostInAll++;
        }
        return true;
    }

    void reports(boolean may) {
        this.may = may;
        if (!may && reportWaits) {
            nothingWaits();
        }
    }

    private void nothingWaits() {
        somethingWaits = false;
        reportWaits = false;
        for (List<Happened> of : kept) {
            for (Happened e : of) {
                e.waits = false;
            }
        }
    }

    int tick() {
        time++;
        boolean any = !kept.get(1).isEmpty() || !kept.get(2).isEmpty() || !kept.get(3).isEmpty();
        if (reportWaits) {
            if (time == sentAt + 5) {
                if (again == 3) {
                    nothingWaits();
                } else {
                    again++;
                    sentAt = time;
                    send(false, report);
                }
            }
        } else if (may && any) {
            report = reply(130, reports % 16, List.of(2, 3, 4));
            reportWaits = true;
            reports++;
            again = 0;
            sentAt = time;
            send(false, report);
        }
        return time;
    }

    private List<Integer> reply(int function, int seq, List<Integer> asked) {
        nothingWaits();
        List<Integer> groups = new ArrayList<>();
        List<Integer> done = new ArrayList<>();
        int events = 0;
        for (int v : asked) {
            if (done.contains(v)) {
                continue;
            }
            done.add(v);
            if (v == 1) {
                groups.addAll(List.of(30, 2, 10));
                for (int p = 0; p < 10; p++) {
                    groups.addAll(List.of(p, value[p] % 256, value[p] / 256));
                }
                continue;
            }
            List<Happened> of = kept.get(v - 1);
            int many = Math.min(of.size(), 16 - events);
            if (many > 0) {
                groups.addAll(List.of(32, v - 1, many));
            }
            for (int k = 0; k < many; k++) {
                Happened e = of.get(k);
                e.waits = true;
                groups.addAll(List.of(e.point, e.value % 256, e.value / 256, e.time % 256, e.time / 256, 0, 0));
            }
            events += many;
        }
        int left = 0;
        for (int c = 1; c <= 3; c++) {
            for (Happened e : kept.get(c)) {
                left |= e.waits ? 0 : 1 << c;
            }
        }
        List<Integer> out = new ArrayList<>();
        out.add(192 + (events > 0 ? 32 : 0) + (function == 130 ? 16 : 0) + seq);
        out.add(function);
        out.add(left);
        out.add(lost ? 8 : 0);
        out.addAll(groups);
        if (done.contains(1)) {
            lost = false;
        }
        somethingWaits = events > 0;
        waitSeq = seq;
        return out;
    }

    private void send(boolean fromMaster, List<Integer> fragment) {
        int me = fromMaster ? 0 : 1;
        for (int from = 0; from < fragment.size(); from += 20) {
            int until = Math.min(from + 20, fragment.size());
            List<Integer> carried = new ArrayList<>();
            carried.add((until == fragment.size() ? 128 : 0) + (from == 0 ? 64 : 0) + segments[me] % 64);
            segments[me]++;
            carried.addAll(fragment.subList(from, until));
            line.add(new Flight(fromMaster, frame(fromMaster, carried)));
            if (line.size() > 40) {
                line.remove(0);
            }
        }
    }

    private static int[] frame(boolean fromMaster, List<Integer> carried) {
        List<Integer> f = new ArrayList<>(List.of(5, 100, 5 + carried.size(), fromMaster ? 196 : 68,
            fromMaster ? 2 : 1, 0, fromMaster ? 1 : 2, 0));
        addCheck(f, f);
        for (int from = 0; from < carried.size(); from += 16) {
            List<Integer> block = carried.subList(from, Math.min(from + 16, carried.size()));
            f.addAll(block);
            addCheck(f, block);
        }
        return row(f);
    }

    private static void addCheck(List<Integer> f, List<Integer> of) {
        int c = Wire.check(row(of), 0, of.size());
        f.add(c & 255);
        f.add(c >> 8);
    }

    private static int[] row(List<Integer> list) {
        return list.stream().mapToInt(Integer::intValue).toArray();
    }

    int poll(int what) {
        if (what < 1 || what > 15) {
            return BAD;
        }
        int seq = readings++ % 16;
        answered = false;
        List<Integer> read = new ArrayList<>(List.of(192 + seq, 1));
        for (int v = 1; v <= 4; v++) {
            if ((what >> (v - 1) & 1) == 1) {
                read.addAll(List.of(60, v, 6));
            }
        }
        send(true, read);
        return seq;
    }

    private boolean none(int i) {
        return i < 0 || i >= line.size();
    }

    int bring(int i) {
        if (none(i)) {
            return BAD;
        }
        arrive(line.remove(i));
        return line.size();
    }

    int twice(int i) {
        if (none(i)) {
            return BAD;
        }
        arrive(line.get(i));
        return line.size();
    }

    int lose(int i) {
        if (none(i)) {
            return BAD;
        }
        line.remove(i);
        return line.size();
    }

    boolean poke(int i, int k, int mask) {
        if (none(i) || k < 0 || k >= line.get(i).bytes.length || mask < 1 || mask > 255) {
            return false;
        }
        line.get(i).bytes[k] ^= mask;
        return true;
    }

    int at(int i, int k) {
        return none(i) || k < 0 || k >= line.get(i).bytes.length ? BAD : line.get(i).bytes[k];
    }

    int flying() {
        return line.size();
    }

    private void arrive(Flight f) {
        List<Integer> carried = unpack(f);
        if (carried == null) {
            framesDropped++;
            return;
        }
        Gathering g = gathering[f.toStation ? 1 : 0];
        int head = carried.remove(0);
        boolean first = (head & 64) != 0;
        if (first) {
            g.bytes = new ArrayList<>();
        } else if (g.bytes == null || (g.last + 1) % 64 != head % 64 || g.bytes.size() + carried.size() > 400) {
            g.bytes = null;
            return;
        }
        g.bytes.addAll(carried);
        g.last = head % 64;
        if ((head & 128) != 0) {
            List<Integer> whole = g.bytes;
            g.bytes = null;
            come(f.toStation, whole);
        }
    }

    /** The bytes that a frame carries; null: it is to be dropped. */
    private static List<Integer> unpack(Flight f) {
        int n = f.bytes[2] - 5;
        if (n < 2 || n > 21) {
            return null;
        }
        List<Integer> carried = new ArrayList<>();
        for (int k = 10; k < f.bytes.length && carried.size() < n; k++) {
            if ((k - 10) % 18 < 16) {
                carried.add(f.bytes[k]);
            }
        }
        int[] due = frame(f.toStation, carried);
        return java.util.Arrays.equals(due, f.bytes) ? carried : null;
    }

    boolean feed(int b) {
        return b >= 0 && b <= 255 && fed.size() < 60 && fed.add(b);
    }

    boolean inject(int side) {
        if (side != 0 && side != 1) {
            return false;
        }
        List<Integer> whole = fed;
        fed = new ArrayList<>();
        return come(side == 1, whole);
    }

    private boolean come(boolean toStation, List<Integer> f) {
        boolean ok = f.size() >= 2 && f.get(0) >= 192 && (toStation ? toStation(f) : toMaster(f));
        fragmentsDropped += ok ? 0 : 1;
        return ok;
    }

    private boolean toStation(List<Integer> f) {
        int bits = f.get(0) / 16 % 4;
        int seq = f.get(0) % 16;
        if (f.get(1) == 0 && f.size() == 2 && bits < 2) {
            if (somethingWaits && reportWaits == (bits == 1) && seq == waitSeq) {
                kept.forEach(of -> of.removeIf(e -> e.waits));
                nothingWaits();
            }
            return true;
        }
        if (f.get(1) != 1 || bits != 0 || !List.of(5, 8, 11, 14).contains(f.size())) {
            return false;
        }
        List<Integer> asked = new ArrayList<>();
        for (int k = 2; k < f.size(); k += 3) {
            if (f.get(k) != 60 || f.get(k + 1) < 1 || f.get(k + 1) > 4 || f.get(k + 2) != 6) {
                return false;
            }
            asked.add(f.get(k + 1));
        }
        send(false, reply(129, seq, asked));
        return true;
    }

    private boolean toMaster(List<Integer> f) {
        int bits = f.get(0) / 16 % 4;
        int seq = f.get(0) % 16;
        boolean response = f.get(1) == 129 && bits % 2 == 0 && !answered && seq == (readings - 1) % 16;
        boolean told = f.get(1) == 130 && bits % 2 == 1;
        if (!response && !told || f.size() < 4) {
            return false;
        }
        List<int[]> items = new ArrayList<>();
        int k = 4;
        while (k < f.size()) {
            if (k + 3 > f.size()) {
                return false;
            }
            boolean states = f.get(k) == 30 && f.get(k + 1) == 2;
            boolean events = f.get(k) == 32 && f.get(k + 1) >= 1 && f.get(k + 1) <= 3;
            if (!states && !events) {
                return false;
            }
            int c = f.get(k + 1);
            int many = f.get(k + 2);
            k += 3;
            for (int n = 0; n < many; n++) {
                int size = events ? 7 : 3;
                if (k + size > f.size() || f.get(k) > 9 || events && f.get(k + 6) > 127) {
                    return false;
                }
                int when = events ? f.get(k + 3) + (f.get(k + 4) << 8) + (f.get(k + 5) << 16) + (f.get(k + 6) << 24) : -1;
                items.add(new int[] {f.get(k), f.get(k + 1) + 256 * f.get(k + 2), when, c});
                k += size;
            }
        }
        answered = answered || response;
        items.forEach(this::take);
        byte1 = f.get(2);
        byte2 = f.get(3);
        if (bits >= 2) {
            send(true, List.of(f.get(0) - 32, 0));
        }
        return true;
    }

    private void take(int[] item) {
        int p = item[0];
        if (item[2] >= 0 && item[2] <= seenTime[p]) {
            cameAgain++;
            return;
        }
        seen[p] = item[1];
        if (item[2] >= 0) {
            seenTime[p] = item[2];
            taken.add(item);
        }
    }

    int view(int p, int what) {
        return !isPoint(p) || what < 0 || what > 1 ? BAD : what == 0 ? seen[p] : seenTime[p];
    }

    int taken(int k, int what) {
        return k < 0 || k >= Math.min(200, taken.size()) || what < 0 || what > 3 ? BAD : taken.get(k)[what];
    }

    int event(int c, int k, int what) {
        if (c < 1 || c > 3 || k < 0 || k >= kept.get(c).size() || what < 0 || what > 3) {
            return BAD;
        }
        Happened e = kept.get(c).get(k);
        return new int[] {e.point, e.value, e.time, e.waits ? 1 : 0}[what];
    }

    int count(int what) {
        int[] counts = {time, taken.size(), cameAgain, framesDropped, fragmentsDropped, readings, reports, lostInAll,
            byte1, byte2, somethingWaits ? 1 : 0, fed.size()};
        return what < 0 || what > 11 ? BAD : counts[what];
    }
}
