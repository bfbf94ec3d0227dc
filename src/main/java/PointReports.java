/**
 * A station that keeps the changes of its points as events, a master that reads them or is told of
 * them, and the line of frames between the two.
 */
public final class PointReports {
    public static final int BAD = -1;

    private static final int POINTS = 10;
    private static final int CLASSES = 3;

    /** The two sides, by the addresses that frames carry. */
    private static final int MASTER = 1;
    private static final int STATION = 2;

    /** The bits of a fragment's first byte. */
    private static final int WHOLE = 192;
    private static final int CON = 32;
    private static final int UNS = 16;
    private static final int SEQ = 15;

    /** The functions of fragments. */
    private static final int CONFIRM = 0;
    private static final int READ = 1;
    private static final int RESPONSE = 129;
    private static final int REPORT = 130;

    private static final int COLLECTED_ROOM = 60;

    private final Line line;
    private final Station station;
    private final Master master;
    private final Receiver stationReceiver;
    private final Receiver masterReceiver;
    private final Bytes collected;

    public PointReports() {
        line = new Line();
        station = new Station(new Sender(line, MASTER));
        master = new Master(new Sender(line, STATION));
        stationReceiver = new Receiver();
        masterReceiver = new Receiver();
        collected = new Bytes(COLLECTED_ROOM);
    }

    public boolean kind(int point, int cls) {
        return station.classify(point, cls);
    }

    public boolean change(int point, int value) {
        return station.changeValue(point, value);
    }

    public void reports(boolean may) {
        station.allowReports(may);
    }

    public int tick() {
        return station.goOn();
    }

    public int poll(int what) {
        return what < 1 || what > 15 ? BAD : master.ask(what);
    }

    public int bring(int i) {
        // Out of flight first: what its coming sends must find its place free.
        Frame frame = line.takeOut(i);
        if (frame == null) {
            return BAD;
        }
        deliver(frame);
        return line.size();
    }

    public int twice(int i) {
        Frame frame = line.frame(i);
        if (frame == null) {
            return BAD;
        }
        deliver(frame);
        return line.size();
    }

    public int lose(int i) {
        return line.takeOut(i) == null ? BAD : line.size();
    }

    public boolean poke(int i, int k, int mask) {
        Frame frame = line.frame(i);
        return frame != null && mask >= 1 && mask <= 255 && frame.spoil(k, mask);
    }

    public int at(int i, int k) {
        Frame frame = line.frame(i);
        return frame == null ? BAD : frame.get(k);
    }

    public int flying() {
        return line.size();
    }

    public boolean feed(int b) {
        return b >= 0 && b <= 255 && collected.add(b);
    }

    public boolean inject(int side) {
        if (side != 0 && side != 1) {
            return false;
        }
        boolean kept = side == 0 ? master.hear(collected) : station.hear(collected);
        collected.clear();
        return kept;
    }

    public int view(int point, int what) {
        return master.seen(point, what);
    }

    public int taken(int k, int what) {
        return master.takenEvent(k, what);
    }

    public int event(int cls, int k, int what) {
        return station.keptEvent(cls, k, what);
    }

    public int count(int what) {
        switch (what) {
            case 0: return station.now;
            case 1: return master.eventsTaken;
            case 2: return master.eventsAgain;
            case 3: return masterReceiver.framesDropped + stationReceiver.framesDropped;
            case 4: return master.fragmentsDropped + station.fragmentsDropped;
            case 5: return master.readings;
            case 6: return station.reportsMade;
            case 7: return station.eventsLost;
            case 8: return master.classesLeft;
            case 9: return master.lostSeen;
            case 10: return station.waitsFor == Station.NOTHING ? 0 : 1;
            case 11: return collected.size();
            default: return BAD;
        }
    }

    /** The receiver has copied the segment before an answer is sent, so the frame's row may be used again. */
    private void deliver(Frame frame) {
        if (frame.goesTo == STATION) {
            if (stationReceiver.completes(frame)) {
                station.hear(stationReceiver.fragment);
            }
        } else if (masterReceiver.completes(frame)) {
            master.hear(masterReceiver.fragment);
        }
    }

    /** A row of bytes with a fixed room. */
    private static final class Bytes {
        private final int[] row;
        private int length;

        Bytes(int room) {
            row = new int[room];
        }

        int size() {
            return length;
        }

        void clear() {
            length = 0;
        }

        boolean hasRoomFor(int more) {
            return length + more <= row.length;
        }

        int get(int k) {
            return k < 0 || k >= length ? BAD : row[k];
        }

        void set(int k, int b) {
            if (k >= 0 && k < length) {
                row[k] = b & 255;
            }
        }

        boolean add(int b) {
            if (length >= row.length) {
                return false;
            }
            row[length] = b & 255;
            length++;
            return true;
        }

        void addNumber(int number, int bytes) {
            for (int i = 0; i < bytes; i++) {
                add(number >> (8 * i));
            }
        }

        int number(int from, int bytes) {
            int number = 0;
            for (int i = 0; i < bytes; i++) {
                number |= (get(from + i) & 255) << (8 * i);
            }
            return number;
        }

        int check(int from, int bytes) {
            int c = 0;
            for (int i = 0; i < bytes; i++) {
                c ^= get(from + i) & 255;
                for (int bit = 0; bit < 8; bit++) {
                    c = (c & 1) == 0 ? c >> 1 : (c >> 1) ^ 0xA6BC;
                }
            }
            return ~c & 0xFFFF;
        }
    }

    /** A frame in flight, and the form that frames must have. */
    private static final class Frame {
        private static final int START = 5;
        private static final int SECOND = 100;
        private static final int FROM_MASTER = 196;
        private static final int FROM_STATION = 68;
        private static final int HEAD = 8;
        private static final int BODY = 10;
        private static final int BLOCK = 16;
        private static final int LENGTH_EXTRA = 5;
        private static final int LEAST_CARRIED = 2;
        private static final int MOST_CARRIED = 21;
        private static final int ROOM = BODY + MOST_CARRIED + 4;

        private final Bytes bytes = new Bytes(ROOM);
        /** The side it was sent to, whatever the line makes of the address in its bytes. */
        private int goesTo = STATION;

        int get(int k) {
            return bytes.get(k);
        }

        boolean spoil(int k, int mask) {
            if (k < 0 || k >= bytes.size()) {
                return false;
            }
            bytes.set(k, bytes.get(k) ^ mask);
            return true;
        }

        /** Carries the segment's first byte and a part of a fragment. */
        void pack(int side, int first, Bytes fragment, int from, int many) {
            goesTo = side;
            bytes.clear();
            bytes.add(START);
            bytes.add(SECOND);
            bytes.add(LENGTH_EXTRA + 1 + many);
            bytes.add(control());
            bytes.addNumber(goesTo, 2);
            bytes.addNumber(comesFrom(), 2);
            bytes.addNumber(bytes.check(0, HEAD), 2);
            int block = bytes.size();
            bytes.add(first);
            for (int i = 0; i < many; i++) {
                if (bytes.size() - block == BLOCK) {
                    bytes.addNumber(bytes.check(block, BLOCK), 2);
                    block = bytes.size();
                }
                bytes.add(fragment.get(from + i));
            }
            bytes.addNumber(bytes.check(block, bytes.size() - block), 2);
        }

        /** How many bytes it carries, by its own word. */
        int carries() {
            return bytes.get(2) - LENGTH_EXTRA;
        }

        int carried(int k) {
            return bytes.get(BODY + k + k / BLOCK * 2);
        }

        boolean isSound() {
            int many = carries();
            return many >= LEAST_CARRIED && many <= MOST_CARRIED
                && bytes.size() == BODY + many + (many + BLOCK - 1) / BLOCK * 2
                && headIsSound()
                && bodyIsSound();
        }

        private boolean headIsSound() {
            return bytes.get(0) == START
                && bytes.get(1) == SECOND
                && bytes.get(3) == control()
                && bytes.number(4, 2) == goesTo
                && bytes.number(6, 2) == comesFrom()
                && bytes.number(HEAD, 2) == bytes.check(0, HEAD);
        }

        private boolean bodyIsSound() {
            for (int block = BODY; block < bytes.size(); block += BLOCK + 2) {
                int many = Math.min(BLOCK, bytes.size() - 2 - block);
                if (bytes.number(block + many, 2) != bytes.check(block, many)) {
                    return false;
                }
            }
            return true;
        }

        private int control() {
            return goesTo == STATION ? FROM_MASTER : FROM_STATION;
        }

        private int comesFrom() {
            return goesTo == STATION ? MASTER : STATION;
        }
    }

    /** The frames in flight, from the oldest on; the rows behind them are free. */
    private static final class Line {
        private static final int ROOM = 40;

        private final Frame[] frames = new Frame[ROOM];
        private int inFlight;

        Line() {
            for (int i = 0; i < ROOM; i++) {
                frames[i] = new Frame();
            }
        }

        int size() {
            return inFlight;
        }

        /** Null: none such. */
        Frame frame(int i) {
            return i < 0 || i >= inFlight ? null : frames[i];
        }

        /** The frame keeps its bytes until another one is launched. Null: none such. */
        Frame takeOut(int i) {
            Frame out = frame(i);
            if (out == null) {
                return null;
            }
            inFlight--;
            for (int k = i; k < inFlight; k++) {
                frames[k] = frames[k + 1];
            }
            frames[inFlight] = out;
            return out;
        }

        /** A frame newly in flight, for its sender to pack. */
        Frame launch() {
            if (inFlight == ROOM) {
                takeOut(0);
            }
            inFlight++;
            return frames[inFlight - 1];
        }
    }

    /** The form of segments. */
    private static final class Segment {
        private static final int LAST = 128;
        private static final int FIRST = 64;
        private static final int NUMBERS = 64;
        private static final int MOST = 20;

        static int firstByte(int number, boolean first, boolean last) {
            return number + (first ? FIRST : 0) + (last ? LAST : 0);
        }

        static boolean isFirst(int firstByte) {
            return (firstByte & FIRST) != 0;
        }

        static boolean isLast(int firstByte) {
            return (firstByte & LAST) != 0;
        }

        static int number(int firstByte) {
            return firstByte % NUMBERS;
        }

        static int after(int number) {
            return (number + 1) % NUMBERS;
        }
    }

    /** One side's way onto the line: cuts fragments into segments and counts these. */
    private static final class Sender {
        private final Line line;
        private final int goesTo;
        private int nextNumber;

        Sender(Line line, int goesTo) {
            this.line = line;
            this.goesTo = goesTo;
        }

        void send(Bytes fragment) {
            int length = fragment.size();
            for (int from = 0; from < length; from += Segment.MOST) {
                int many = Math.min(Segment.MOST, length - from);
                int first = Segment.firstByte(nextNumber, from == 0, from + many == length);
                line.launch().pack(goesTo, first, fragment, from, many);
                nextNumber = Segment.after(nextNumber);
            }
        }
    }

    /** One side's end of the line: puts segments together again. */
    private static final class Receiver {
        private static final int MOST = 400;

        private final Bytes fragment = new Bytes(MOST);
        private boolean open;
        private int lastNumber;
        private int framesDropped;

        /** Whether with this frame a fragment is there. */
        boolean completes(Frame frame) {
            if (!frame.isSound()) {
                framesDropped++;
                return false;
            }
            int first = frame.carried(0);
            if (Segment.isFirst(first)) {
                fragment.clear();
            } else if (!follows(first, frame.carries() - 1)) {
                open = false;
                return false;
            }
            for (int k = 1; k < frame.carries(); k++) {
                fragment.add(frame.carried(k));
            }
            lastNumber = Segment.number(first);
            open = !Segment.isLast(first);
            return !open;
        }

        private boolean follows(int first, int many) {
            return open
                && Segment.number(first) == Segment.after(lastNumber)
                && fragment.hasRoomFor(many);
        }
    }

    /** The events that the station keeps of one class, from the oldest on. */
    private static final class Events {
        private static final int ROOM = 8;

        private final int[] points = new int[ROOM];
        private final int[] values = new int[ROOM];
        private final int[] times = new int[ROOM];
        private int size;
        /** Fragments take the oldest events, so those that wait are always the first ones. */
        private int waiting;

        /** Whether the oldest one was lost for it. */
        boolean add(int point, int value, int time) {
            boolean full = size == ROOM;
            if (full) {
                dropOldest(1);
            }
            points[size] = point;
            values[size] = value;
            times[size] = time;
            size++;
            return full;
        }

        void dropWaiting() {
            dropOldest(waiting);
        }

        private void dropOldest(int many) {
            for (int k = many; k < size; k++) {
                points[k - many] = points[k];
                values[k - many] = values[k];
                times[k - many] = times[k];
            }
            size -= many;
            waiting = Math.max(0, waiting - many);
        }

        void waitNoMore() {
            waiting = 0;
        }

        boolean isEmpty() {
            return size == 0;
        }

        boolean hasOthers() {
            return size > waiting;
        }

        /** Puts a group of at most so many events into a fragment, for which they wait then: how many. */
        int putGroup(Bytes out, int cls, int most) {
            int many = Math.min(size, most);
            if (many <= 0) {
                return 0;
            }
            out.add(Group.EVENTS);
            out.add(cls);
            out.add(many);
            for (int k = 0; k < many; k++) {
                out.add(points[k]);
                out.addNumber(values[k], 2);
                out.addNumber(times[k], 4);
            }
            waiting = many;
            return many;
        }

        int get(int k, int what) {
            if (k < 0 || k >= size) {
                return BAD;
            }
            switch (what) {
                case 0: return points[k];
                case 1: return values[k];
                case 2: return times[k];
                case 3: return k < waiting ? 1 : 0;
                default: return BAD;
            }
        }
    }

    /** The form of the groups in a RESPONSE and a REPORT. */
    private static final class Group {
        private static final int STATES = 30;
        private static final int STATES_FORM = 2;
        private static final int EVENTS = 32;
        private static final int HEAD = 3;
        private static final int STATE_SIZE = 3;
        private static final int EVENT_SIZE = 7;

        /** Where the group that begins here ends; BAD: it is not as it must be. */
        static int end(Bytes fragment, int from) {
            if (from + HEAD > fragment.size()) {
                return BAD;
            }
            boolean events = fragment.get(from) == EVENTS;
            if (!(events ? isClass(fragment.get(from + 1)) : isStates(fragment, from))) {
                return BAD;
            }
            int size = events ? EVENT_SIZE : STATE_SIZE;
            int end = from + HEAD + fragment.get(from + 2) * size;
            if (end > fragment.size()) {
                return BAD;
            }
            for (int k = from + HEAD; k < end; k += size) {
                if (fragment.get(k) >= POINTS || events && fragment.get(k + 6) >= 128) {
                    return BAD;
                }
            }
            return end;
        }

        static boolean isClass(int cls) {
            return cls >= 1 && cls <= CLASSES;
        }

        private static boolean isStates(Bytes fragment, int from) {
            return fragment.get(from) == STATES && fragment.get(from + 1) == STATES_FORM;
        }
    }

    /** The form of what a READ asks for. */
    private static final class Asked {
        private static final int FROM = 2;
        private static final int SIZE = 3;
        private static final int MOST = 4;
        private static final int OBJECT = 60;
        private static final int QUALIFIER = 6;
        private static final int STATES = 1;

        static void put(Bytes read, int v) {
            read.add(OBJECT);
            read.add(v);
            read.add(QUALIFIER);
        }

        static boolean isSound(Bytes read) {
            int length = read.size() - FROM;
            if (length < SIZE || length > MOST * SIZE || length % SIZE != 0) {
                return false;
            }
            for (int k = FROM; k < read.size(); k += SIZE) {
                int v = read.get(k + 1);
                if (read.get(k) != OBJECT || v < STATES || v > STATES + CLASSES || read.get(k + 2) != QUALIFIER) {
                    return false;
                }
            }
            return true;
        }
    }

    private static final class Station {
        private static final int TOP_VALUE = 65535;
        private static final int FRAGMENT_ROOM = 160;
        private static final int MOST_EVENTS = 16;
        private static final int LOST = 8;
        private static final int PATIENCE = 5;
        private static final int SENDINGS = 4;
        private static final int NOTHING = 0;

        private final Sender sender;
        private final int[] classes = new int[POINTS];
        private final int[] values = new int[POINTS];
        private final int[] changedAt = new int[POINTS];
        private final Events[] events = new Events[CLASSES];
        private final Bytes response = new Bytes(FRAGMENT_ROOM);
        /** Kept apart from the response: it is sent again as it was. */
        private final Bytes report = new Bytes(FRAGMENT_ROOM);
        private int now;
        private boolean mayReport;
        private boolean lostIsKnown;
        /** NOTHING, RESPONSE or REPORT, and the SEQ that confirms it. */
        private int waitsFor = NOTHING;
        private int waitsSeq;
        private int reportSentAt;
        private int reportSendings;
        private int reportsMade;
        private int eventsLost;
        private int fragmentsDropped;

        Station(Sender sender) {
            this.sender = sender;
            for (int c = 0; c < CLASSES; c++) {
                events[c] = new Events();
            }
            for (int p = 0; p < POINTS; p++) {
                changedAt[p] = BAD;
            }
        }

        boolean classify(int point, int cls) {
            if (point < 0 || point >= POINTS || cls < 0 || cls > CLASSES) {
                return false;
            }
            classes[point] = cls;
            return true;
        }

        boolean changeValue(int point, int value) {
            if (point < 0 || point >= POINTS || value < 0 || value > TOP_VALUE || changedAt[point] == now) {
                return false;
            }
            values[point] = value;
            changedAt[point] = now;
            if (classes[point] > 0 && events[classes[point] - 1].add(point, value, now)) {
                eventsLost++;
                lostIsKnown = true;
            }
            return true;
        }

        int keptEvent(int cls, int k, int what) {
            return Group.isClass(cls) ? events[cls - 1].get(k, what) : BAD;
        }

        void allowReports(boolean may) {
            mayReport = may;
            if (!may && waitsFor == REPORT) {
                waitNoMore();
            }
        }

        int goOn() {
            now++;
            if (waitsFor != REPORT) {
                if (mayReport && hasEvents()) {
                    makeReport();
                    sendReport();
                }
            } else if (now - reportSentAt >= PATIENCE) {
                if (reportSendings < SENDINGS) {
                    sendReport();
                } else {
                    waitNoMore();
                }
            }
            return now;
        }

        private void sendReport() {
            sender.send(report);
            reportSentAt = now;
            reportSendings++;
        }

        private void makeReport() {
            begin(report);
            int many = 0;
            for (int cls = 1; cls <= CLASSES; cls++) {
                many += events[cls - 1].putGroup(report, cls, MOST_EVENTS - many);
            }
            finish(report, REPORT, reportsMade & SEQ, many);
            reportsMade++;
            reportSendings = 0;
        }

        /** Whether the fragment was not dropped. */
        boolean hear(Bytes fragment) {
            if (isConfirm(fragment)) {
                takeConfirm(fragment.get(0));
                return true;
            }
            if (isRead(fragment)) {
                makeResponse(fragment);
                sender.send(response);
                return true;
            }
            fragmentsDropped++;
            return false;
        }

        private static boolean isConfirm(Bytes fragment) {
            return fragment.size() == 2
                && (fragment.get(0) & (WHOLE | CON)) == WHOLE
                && fragment.get(1) == CONFIRM;
        }

        private static boolean isRead(Bytes fragment) {
            return fragment.size() > 2
                && (fragment.get(0) & (WHOLE | CON | UNS)) == WHOLE
                && fragment.get(1) == READ
                && Asked.isSound(fragment);
        }

        private void takeConfirm(int control) {
            int confirms = (control & UNS) != 0 ? REPORT : RESPONSE;
            if (waitsFor != confirms || waitsSeq != (control & SEQ)) {
                return;
            }
            for (int c = 0; c < CLASSES; c++) {
                events[c].dropWaiting();
            }
            waitNoMore();
        }

        private void makeResponse(Bytes read) {
            begin(response);
            int answered = 0;
            int many = 0;
            for (int k = Asked.FROM; k < read.size(); k += Asked.SIZE) {
                int v = read.get(k + 1);
                int cls = v - Asked.STATES;
                if ((answered & (1 << v)) != 0) {
                    continue;
                }
                answered |= 1 << v;
                if (Group.isClass(cls)) {
                    many += events[cls - 1].putGroup(response, cls, MOST_EVENTS - many);
                } else {
                    putStates();
                }
            }
            finish(response, RESPONSE, read.get(0) & SEQ, many);
            if ((answered & (1 << Asked.STATES)) != 0) {
                lostIsKnown = false;
            }
        }

        private void putStates() {
            response.add(Group.STATES);
            response.add(Group.STATES_FORM);
            response.add(POINTS);
            for (int p = 0; p < POINTS; p++) {
                response.add(p);
                response.addNumber(values[p], 2);
            }
        }

        /** Leaves room for the first four bytes, which depend on the groups behind them. */
        private void begin(Bytes out) {
            waitNoMore();
            out.clear();
            out.addNumber(0, 4);
        }

        private void finish(Bytes out, int function, int seq, int many) {
            out.set(0, WHOLE + (many > 0 ? CON : 0) + (function == REPORT ? UNS : 0) + seq);
            out.set(1, function);
            out.set(2, classesLeft());
            out.set(3, lostIsKnown ? LOST : 0);
            if (many > 0) {
                waitsFor = function;
                waitsSeq = seq;
            }
        }

        private int classesLeft() {
            int left = 0;
            for (int cls = 1; cls <= CLASSES; cls++) {
                if (events[cls - 1].hasOthers()) {
                    left += 1 << cls;
                }
            }
            return left;
        }

        private boolean hasEvents() {
            for (int c = 0; c < CLASSES; c++) {
                if (!events[c].isEmpty()) {
                    return true;
                }
            }
            return false;
        }

        private void waitNoMore() {
            waitsFor = NOTHING;
            for (int c = 0; c < CLASSES; c++) {
                events[c].waitNoMore();
            }
        }
    }

    private static final class Master {
        private static final int GROUPS = 4;
        private static final int TAKEN_ROOM = 200;
        private static final int TAKEN_FIELDS = 4;
        private static final int OUTGOING_ROOM = Asked.FROM + Asked.MOST * Asked.SIZE;

        private final Sender sender;
        private final Bytes outgoing = new Bytes(OUTGOING_ROOM);
        private final int[] values = new int[POINTS];
        private final int[] times = new int[POINTS];
        private final int[] firstTaken = new int[TAKEN_ROOM * TAKEN_FIELDS];
        private int readings;
        private boolean awaitsResponse;
        private int eventsTaken;
        private int eventsAgain;
        private int classesLeft;
        private int lostSeen;
        private int fragmentsDropped;

        Master(Sender sender) {
            this.sender = sender;
            for (int p = 0; p < POINTS; p++) {
                times[p] = BAD;
            }
        }

        /** Reads what the bits of the sum tell: the SEQ. */
        int ask(int sum) {
            int seq = readings & SEQ;
            outgoing.clear();
            outgoing.add(WHOLE + seq);
            outgoing.add(READ);
            for (int bit = 0; bit < Asked.MOST; bit++) {
                if ((sum & (1 << bit)) != 0) {
                    Asked.put(outgoing, bit + 1);
                }
            }
            sender.send(outgoing);
            readings++;
            awaitsResponse = true;
            return seq;
        }

        /** Whether the fragment was not dropped. */
        boolean hear(Bytes fragment) {
            if (!isWanted(fragment) || !groupsAreSound(fragment)) {
                fragmentsDropped++;
                return false;
            }
            if (fragment.get(1) == RESPONSE) {
                awaitsResponse = false;
            }
            takeGroups(fragment);
            classesLeft = fragment.get(2);
            lostSeen = fragment.get(3);
            if ((fragment.get(0) & CON) != 0) {
                makeConfirm(fragment.get(0));
                sender.send(outgoing);
            }
            return true;
        }

        private boolean isWanted(Bytes fragment) {
            if (fragment.size() < GROUPS || (fragment.get(0) & WHOLE) != WHOLE) {
                return false;
            }
            boolean uns = (fragment.get(0) & UNS) != 0;
            if (fragment.get(1) == REPORT) {
                return uns;
            }
            return fragment.get(1) == RESPONSE
                && !uns
                && awaitsResponse
                && (fragment.get(0) & SEQ) == ((readings - 1) & SEQ);
        }

        private static boolean groupsAreSound(Bytes fragment) {
            int from = GROUPS;
            while (from < fragment.size()) {
                int end = Group.end(fragment, from);
                if (end <= from) {
                    return false;
                }
                from = end;
            }
            return true;
        }

        /** Only for groups that are sound. */
        private void takeGroups(Bytes fragment) {
            int from = GROUPS;
            while (from < fragment.size()) {
                int k = from + Group.HEAD;
                int many = fragment.get(from + 2);
                boolean areEvents = fragment.get(from) == Group.EVENTS;
                int size = areEvents ? Group.EVENT_SIZE : Group.STATE_SIZE;
                for (int i = 0; i < many; i++) {
                    if (areEvents) {
                        takeEvent(fragment, k, fragment.get(from + 1));
                    } else {
                        takeState(fragment, k);
                    }
                    k += size;
                }
                from = k;
            }
        }

        private void takeState(Bytes fragment, int from) {
            int point = fragment.get(from);
            if (point >= 0 && point < POINTS) {
                values[point] = fragment.number(from + 1, 2);
            }
        }

        private void takeEvent(Bytes fragment, int from, int cls) {
            int point = fragment.get(from);
            if (point < 0 || point >= POINTS) {
                return;
            }
            int value = fragment.number(from + 1, 2);
            int time = fragment.number(from + 3, 4);
            if (time <= times[point]) {
                eventsAgain++;
                return;
            }
            values[point] = value;
            times[point] = time;
            if (eventsTaken < TAKEN_ROOM) {
                int slot = eventsTaken * TAKEN_FIELDS;
                firstTaken[slot] = point;
                firstTaken[slot + 1] = value;
                firstTaken[slot + 2] = time;
                firstTaken[slot + 3] = cls;
            }
            eventsTaken++;
        }

        private void makeConfirm(int control) {
            outgoing.clear();
            outgoing.add(WHOLE + (control & (UNS | SEQ)));
            outgoing.add(CONFIRM);
        }

        int seen(int point, int what) {
            if (point < 0 || point >= POINTS || what < 0 || what > 1) {
                return BAD;
            }
            return what == 0 ? values[point] : times[point];
        }

        int takenEvent(int k, int what) {
            if (k < 0 || k >= TAKEN_ROOM || k >= eventsTaken || what < 0 || what >= TAKEN_FIELDS) {
                return BAD;
            }
            return firstTaken[k * TAKEN_FIELDS + what];
        }
    }
}
