/** Promises 10 to 18: at each edge that they name, the last value inside and the first one outside. */
public final class BoundaryAnswersTest {
    public static void main(String[] args) {
        Due due = new Due("BoundaryAnswersTest");
        pokeAFrame(due);
        pokeAByte(due);
        pokeWithAMask(due);
        atAFrame(due);
        atAByte(due);
        atAShorterFrame(due);
        fortyInFlight(due);
        fortyByAnswers(due);
        feedAByte(due);
        feedSixty(due);
        sixtyCome(due);
        injectToASide(due);
        injectIsGone(due);
        injectNothing(due);
        viewOfAPoint(due);
        viewOfWhat(due);
        viewWithoutAnEvent(due);
        takenOfSome(due);
        takenOfWhat(due);
        theFirst200(due);
        eventOfAClass(due);
        eventByNumber(due);
        eventOfWhat(due);
        whetherItWaits(due);
        countOfWhat(due);
        countOfFrames(due);
        countOfReadingsAndReports(due);
        countOfWhatWaits(due);
        countOfBytes(due);
        due.end();
    }

    private static PointReports asked(int many) {
        PointReports x = new PointReports();
        for (int n = 0; n < many; n++) {
            x.poll(2);
        }
        return x;
    }

    private static void pokeAFrame(Due due) {
        due.says("A byte of a frame in flight is changed where mask (1 .. 255) has bits. False: none such");
        PointReports x = asked(2);
        for (int wrong : new int[] {-1, 2, 40, Integer.MIN_VALUE, Integer.MAX_VALUE}) {
            due.no("poke(" + wrong + ", 0, 1)", x.poke(wrong, 0, 1));
        }
        due.is("at(0, 0)", x.at(0, 0), 5);
        due.is("at(1, 0)", x.at(1, 0), 5);
        due.yes("poke(0, 0, 1)", x.poke(0, 0, 1));
        due.yes("poke(1, 0, 2)", x.poke(1, 0, 2));
        due.is("at(0, 0) then", x.at(0, 0), 4);
        due.is("at(1, 0) then", x.at(1, 0), 7);
        x.lose(1);
        due.no("poke(1, 0, 1), which was lost", x.poke(1, 0, 1));
        PointReports y = asked(40);
        due.yes("poke(39, 0, 1)", y.poke(39, 0, 1));
        due.no("poke(40, 0, 1)", y.poke(40, 0, 1));
    }

    private static void pokeAByte(Due due) {
        due.says("A byte of a frame in flight is changed where mask (1 .. 255) has bits. False: none such");
        // The longest frame, and the shortest one that a poll makes.
        PointReports x = new PointReports();
        x.poll(1);
        x.twice(0);
        int[] lengths = {18, 35};
        for (int i = 0; i < 2; i++) {
            int before = x.at(i, lengths[i] - 1);
            due.no("poke(" + i + ", -1, 1)", x.poke(i, -1, 1));
            due.yes("poke(" + i + ", the last, 1)", x.poke(i, lengths[i] - 1, 1));
            due.is("at(" + i + ", the last)", x.at(i, lengths[i] - 1), before ^ 1);
            due.no("poke(" + i + ", one behind it, 1)", x.poke(i, lengths[i], 1));
            due.no("poke(" + i + ", MIN, 1)", x.poke(i, Integer.MIN_VALUE, 1));
            due.no("poke(" + i + ", MAX, 1)", x.poke(i, Integer.MAX_VALUE, 1));
            due.is("at(" + i + ", one behind it)", x.at(i, lengths[i]), -1);
        }
    }

    private static void pokeWithAMask(Due due) {
        due.says("where mask (1 .. 255) has bits");
        PointReports x = asked(1);
        for (int wrong : new int[] {0, 256, 257, -1, -255, Integer.MIN_VALUE, Integer.MAX_VALUE}) {
            due.no("poke(0, 1, " + wrong + ")", x.poke(0, 1, wrong));
            due.is("at(0, 1)", x.at(0, 1), 100);
        }
        due.yes("poke(0, 1, 1)", x.poke(0, 1, 1));
        due.is("at(0, 1)", x.at(0, 1), 101);
        due.yes("poke(0, 1, 255)", x.poke(0, 1, 255));
        due.is("at(0, 1)", x.at(0, 1), 154);
        due.yes("poke(0, 5, 255), of 0", x.poke(0, 5, 255));
        due.is("at(0, 5)", x.at(0, 5), 255);
        due.yes("poke(0, 5, 255), of 255", x.poke(0, 5, 255));
        due.is("at(0, 5)", x.at(0, 5), 0);
    }

    private static void atAFrame(Due due) {
        due.says("Byte k of frame i in flight. BAD: none such");
        PointReports x = asked(40);
        due.is("at(-1, 0)", x.at(-1, 0), -1);
        due.is("at(0, 10)", x.at(0, 10), 192);
        due.is("at(39, 10)", x.at(39, 10), 192 + 39);
        due.is("at(40, 10)", x.at(40, 10), -1);
        due.is("at(MIN, 10)", x.at(Integer.MIN_VALUE, 10), -1);
        due.is("at(MAX, 10)", x.at(Integer.MAX_VALUE, 10), -1);
        x.lose(0);
        due.is("at(39, 10), one is lost", x.at(39, 10), -1);
        due.is("at(38, 10), one is lost", x.at(38, 10), 192 + 39);
    }

    private static void atAByte(Due due) {
        due.says("Byte k of frame i in flight. BAD: none such");
        PointReports x = new PointReports();
        x.poll(1);
        x.bring(0);
        due.is("at(0, -1)", x.at(0, -1), -1);
        due.is("at(0, 0)", x.at(0, 0), 5);
        due.is("at(0, 34)", x.at(0, 34), 44);
        due.is("at(0, 35)", x.at(0, 35), -1);
        due.is("at(0, MIN)", x.at(0, Integer.MIN_VALUE), -1);
        due.is("at(0, MAX)", x.at(0, Integer.MAX_VALUE), -1);
    }

    /** The frame before it in the same place was longer. */
    private static void atAShorterFrame(Due due) {
        due.says("Byte k of frame i in flight. BAD: none such");
        PointReports x = new PointReports();
        x.poll(15);
        due.is("at(0, 26), READ of all", x.at(0, 26) != -1, true);
        due.is("at(0, 27), READ of all", x.at(0, 27), -1);
        x.lose(0);
        x.poll(2);
        due.is("at(0, 17), READ of one", x.at(0, 17) != -1, true);
        due.is("at(0, 18), READ of one", x.at(0, 18), -1);
        due.is("at(0, 26), READ of one", x.at(0, 26), -1);
        due.no("poke(0, 18, 1)", x.poke(0, 18, 1));
        due.is("it comes", x.bring(0), 1);
        due.is("count(3)", x.count(3), 0);
    }

    private static void fortyInFlight(Due due) {
        due.says("How many frames are in flight (of more than 40 the oldest is lost)");
        for (int many = 39; many <= 42; many++) {
            PointReports x = asked(many);
            int lost = Math.max(0, many - 40);
            due.is("flying() with " + many, x.flying(), many - lost);
            due.is("the oldest of " + many, x.at(0, 10), 192 + lost);
            due.is("the newest of " + many, x.at(many - lost - 1, 10), 192 + many - 1);
        }
    }

    private static void fortyByAnswers(Due due) {
        due.says("How many frames are in flight (of more than 40 the oldest is lost)");
        for (int many = 37; many <= 39; many++) {
            PointReports x = asked(many);
            // The response to it has two segments.
            Wire.inject(x, 1, 192, 1, 60, 1, 6);
            int lost = Math.max(0, many + 2 - 40);
            due.is("flying() with " + (many + 2), x.flying(), many + 2 - lost);
            due.is("the oldest of " + (many + 2), x.at(0, 10), 192 + lost);
            due.is("the response's first segment", x.at(many - lost, 10), 64);
            due.is("the response's last segment", x.at(many - lost + 1, 10), 128 + 1);
        }
    }

    private static void feedAByte(Due due) {
        due.says("A byte (0 .. 255) of a fragment from outside is collected, at most 60. False: none such, no room");
        PointReports x = new PointReports();
        for (int wrong : new int[] {-1, 256, Integer.MIN_VALUE, Integer.MAX_VALUE}) {
            due.no("feed(" + wrong + ")", x.feed(wrong));
        }
        due.is("count(11)", x.count(11), 0);
        due.yes("feed(0)", x.feed(0));
        due.yes("feed(255)", x.feed(255));
        due.is("count(11)", x.count(11), 2);
    }

    private static void feedSixty(Due due) {
        due.says("is collected, at most 60. False: none such, no room");
        PointReports x = new PointReports();
        for (int n = 0; n < 59; n++) {
            x.feed(7);
        }
        due.is("count(11)", x.count(11), 59);
        due.yes("feed(7), the 60th", x.feed(7));
        due.is("count(11)", x.count(11), 60);
        due.no("feed(7), the 61st", x.feed(7));
        due.no("feed(-1), neither", x.feed(-1));
        due.is("count(11)", x.count(11), 60);
        x.inject(0);
        due.is("count(11)", x.count(11), 0);
        due.yes("feed(7), the first again", x.feed(7));
        due.is("count(11)", x.count(11), 1);
    }

    /** A REPORT of 2 events and of what is so with 12 points is 60 bytes long. */
    private static void sixtyCome(Due due) {
        due.says("is collected, at most 60");
        for (int extra = 0; extra <= 1; extra++) {
            PointReports x = new PointReports();
            int[] report = new int[60 + extra];
            int[] begin = {208, 130, 2, 8, 32, 1, 2, 1, 3, 0, 5, 0, 0, 0, 2, 4, 0, 5, 0, 0, 0, 30, 2, 12};
            System.arraycopy(begin, 0, report, 0, begin.length);
            report[57] = 9;
            report[58] = 255;
            report[59] = 1;
            due.yes("the byte behind 60 is refused, the rest comes", Wire.inject(x, 0, report));
            due.is("view(9, 0)", x.view(9, 0), 511);
            due.is("count(1)", x.count(1), 2);
        }
    }

    private static void injectToASide(Due due) {
        due.says("comes to the master (0) or the station (1) as a fragment");
        for (int side = -1; side <= 2; side++) {
            PointReports x = new PointReports();
            due.is("REPORT to " + side, Wire.inject(x, side, 208, 130, 2, 0), side == 0);
            due.is("count(8), REPORT to " + side, x.count(8), side == 0 ? 2 : 0);
            PointReports y = new PointReports();
            due.is("CONFIRM to " + side, Wire.inject(y, side, 192, 0), side == 1);
            due.is("count(4), CONFIRM to " + side, y.count(4), side == 0 ? 1 : 0);
        }
    }

    private static void injectIsGone(Due due) {
        due.says("and is gone: whether it was not dropped. False also: another side");
        PointReports x = new PointReports();
        due.yes("not dropped", Wire.inject(x, 0, 208, 130, 2, 0));
        due.is("count(11), not dropped", x.count(11), 0);
        due.no("dropped", Wire.inject(x, 0, 208, 130, 2, 0, 1));
        due.is("count(11), dropped", x.count(11), 0);
        for (int wrong : new int[] {-1, 2, Integer.MIN_VALUE, Integer.MAX_VALUE}) {
            x.feed(9);
            int before = x.count(11);
            due.no("inject(" + wrong + ")", x.inject(wrong));
            due.is("count(11), another side", x.count(11), before);
        }
        due.is("count(4), another side drops nothing", x.count(4), 1);
    }

    private static void injectNothing(Due due) {
        due.says("What was collected comes to the master (0) or the station (1) as a fragment");
        PointReports x = new PointReports();
        due.no("inject(0), nothing collected", x.inject(0));
        due.is("count(4)", x.count(4), 1);
        due.no("inject(1), nothing collected", x.inject(1));
        due.is("count(4)", x.count(4), 2);
    }

    private static void viewOfAPoint(Due due) {
        due.says("What the master sees of a point");
        PointReports x = new PointReports();
        Wire.inject(x, 0, 208, 130, 0, 0, 30, 2, 2, 0, 5, 0, 9, 255, 255);
        due.is("view(-1, 0)", x.view(-1, 0), -1);
        due.is("view(0, 0)", x.view(0, 0), 5);
        due.is("view(9, 0)", x.view(9, 0), 65535);
        due.is("view(10, 0)", x.view(10, 0), -1);
        due.is("view(MIN, 0)", x.view(Integer.MIN_VALUE, 0), -1);
        due.is("view(MAX, 0)", x.view(Integer.MAX_VALUE, 0), -1);
    }

    private static void viewOfWhat(Due due) {
        due.says("0 its value, 1 the time of the last event taken (BAD: none). BAD: none such");
        PointReports x = new PointReports();
        Wire.inject(x, 0, 208, 130, 0, 0, 32, 1, 1, 3, 5, 0, 8, 0, 0, 0);
        due.is("view(3, -1)", x.view(3, -1), -1);
        due.is("view(3, 0)", x.view(3, 0), 5);
        due.is("view(3, 1)", x.view(3, 1), 8);
        due.is("view(3, 2)", x.view(3, 2), -1);
        due.is("view(3, MIN)", x.view(3, Integer.MIN_VALUE), -1);
        due.is("view(3, MAX)", x.view(3, Integer.MAX_VALUE), -1);
        due.is("view(-1, 1)", x.view(-1, 1), -1);
        due.is("view(10, 1)", x.view(10, 1), -1);
    }

    private static void viewWithoutAnEvent(Due due) {
        due.says("1 the time of the last event taken (BAD: none)");
        PointReports x = new PointReports();
        due.is("view(3, 1), nothing came", x.view(3, 1), -1);
        Wire.inject(x, 0, 208, 130, 0, 0, 30, 2, 1, 3, 5, 0);
        due.is("view(3, 1), what is so came", x.view(3, 1), -1);
        Wire.inject(x, 0, 208, 130, 0, 0, 32, 1, 1, 3, 5, 0, 0, 0, 0, 0);
        due.is("view(3, 1), an event of time 0", x.view(3, 1), 0);
    }

    private static void takenOfSome(Due due) {
        due.says("Of the k-th event taken, of the first 200");
        PointReports x = new PointReports();
        due.is("taken(0, 0), none", x.taken(0, 0), -1);
        Wire.inject(x, 0, 208, 130, 0, 0, 32, 1, 2, 3, 5, 0, 8, 0, 0, 0, 4, 6, 0, 8, 0, 0, 0);
        due.is("taken(-1, 0)", x.taken(-1, 0), -1);
        due.is("taken(0, 0)", x.taken(0, 0), 3);
        due.is("taken(1, 0)", x.taken(1, 0), 4);
        due.is("taken(2, 0)", x.taken(2, 0), -1);
        due.is("taken(MIN, 0)", x.taken(Integer.MIN_VALUE, 0), -1);
        due.is("taken(MAX, 0)", x.taken(Integer.MAX_VALUE, 0), -1);
        Wire.inject(x, 0, 208, 130, 0, 0, 32, 1, 1, 3, 5, 0, 8, 0, 0, 0);
        due.is("taken(2, 0), one that came again", x.taken(2, 0), -1);
    }

    private static void takenOfWhat(Due due) {
        due.says("0 its point, 1 value, 2 time, 3 class. BAD: none such");
        PointReports x = new PointReports();
        Wire.inject(x, 0, 208, 130, 0, 0, 32, 2, 1, 9, 255, 255, 255, 255, 255, 127);
        due.is("taken(0, -1)", x.taken(0, -1), -1);
        due.is("taken(0, 0)", x.taken(0, 0), 9);
        due.is("taken(0, 1)", x.taken(0, 1), 65535);
        due.is("taken(0, 2)", x.taken(0, 2), Integer.MAX_VALUE);
        due.is("taken(0, 3)", x.taken(0, 3), 2);
        due.is("taken(0, 4)", x.taken(0, 4), -1);
        due.is("taken(0, MIN)", x.taken(0, Integer.MIN_VALUE), -1);
        due.is("taken(0, MAX)", x.taken(0, Integer.MAX_VALUE), -1);
    }

    /** Ten points change in each of twenty ticks; then one more does. */
    private static void theFirst200(Due due) {
        due.says("Of the k-th event taken, of the first 200");
        PointReports x = new PointReports();
        for (int p = 0; p < 10; p++) {
            x.kind(p, p < 8 ? 1 : 2);
        }
        x.reports(true);
        for (int n = 0; n < 20; n++) {
            for (int p = 0; p < 10; p++) {
                x.change(p, 10 * n + p);
            }
            x.tick();
            Wire.bringAll(x);
        }
        due.is("count(1)", x.count(1), 200);
        due.is("taken(198, 1)", x.taken(198, 1), 198);
        due.is("taken(199, 1)", x.taken(199, 1), 199);
        due.is("taken(199, 3)", x.taken(199, 3), 2);
        due.is("taken(200, 1)", x.taken(200, 1), -1);
        x.change(0, 777);
        x.tick();
        Wire.bringAll(x);
        due.is("count(1) with one more", x.count(1), 201);
        due.is("view(0, 0) with one more", x.view(0, 0), 777);
        due.is("view(0, 1) with one more", x.view(0, 1), 20);
        due.is("taken(199, 1) with one more", x.taken(199, 1), 199);
        due.is("taken(200, 1) with one more", x.taken(200, 1), -1);
        due.is("taken(0, 1) with one more", x.taken(0, 1), 0);
        due.is("count(2)", x.count(2), 0);
    }

    private static void eventOfAClass(Due due) {
        due.says("Event k, from the oldest on, that the station keeps of a class");
        PointReports x = Wire.threeClasses();
        x.change(0, 10);
        x.change(1, 11);
        x.change(2, 12);
        x.change(3, 13);
        due.is("event(-1, 0, 1)", x.event(-1, 0, 1), -1);
        due.is("event(0, 0, 1)", x.event(0, 0, 1), -1);
        due.is("event(1, 0, 1)", x.event(1, 0, 1), 10);
        due.is("event(2, 0, 1)", x.event(2, 0, 1), 11);
        due.is("event(3, 0, 1)", x.event(3, 0, 1), 12);
        due.is("event(4, 0, 1)", x.event(4, 0, 1), -1);
        due.is("event(MIN, 0, 1)", x.event(Integer.MIN_VALUE, 0, 1), -1);
        due.is("event(MAX, 0, 1)", x.event(Integer.MAX_VALUE, 0, 1), -1);
    }

    private static void eventByNumber(Due due) {
        due.says("Event k, from the oldest on, that the station keeps of a class");
        PointReports x = Wire.threeClasses();
        due.is("event(1, 0, 1), none", x.event(1, 0, 1), -1);
        Wire.changes(x, 0, 1, 100);
        due.is("event(1, 0, 1)", x.event(1, 0, 1), 100);
        due.is("event(1, 1, 1)", x.event(1, 1, 1), -1);
        Wire.changes(x, 0, 8, 101);
        due.is("event(1, -1, 1)", x.event(1, -1, 1), -1);
        due.is("event(1, 0, 1), the oldest of 8", x.event(1, 0, 1), 101);
        due.is("event(1, 7, 1), the newest of 8", x.event(1, 7, 1), 108);
        due.is("event(1, 8, 1)", x.event(1, 8, 1), -1);
        due.is("event(1, MIN, 1)", x.event(1, Integer.MIN_VALUE, 1), -1);
        due.is("event(1, MAX, 1)", x.event(1, Integer.MAX_VALUE, 1), -1);
    }

    private static void eventOfWhat(Due due) {
        due.says("0 its point, 1 value, 2 time, 3 whether it waits (1 or 0). BAD: none such");
        PointReports x = new PointReports();
        x.kind(9, 3);
        Wire.ticks(x, 2);
        x.change(9, 65535);
        due.is("event(3, 0, -1)", x.event(3, 0, -1), -1);
        due.is("event(3, 0, 0)", x.event(3, 0, 0), 9);
        due.is("event(3, 0, 1)", x.event(3, 0, 1), 65535);
        due.is("event(3, 0, 2)", x.event(3, 0, 2), 2);
        due.is("event(3, 0, 3)", x.event(3, 0, 3), 0);
        due.is("event(3, 0, 4)", x.event(3, 0, 4), -1);
        due.is("event(3, 0, MIN)", x.event(3, 0, Integer.MIN_VALUE), -1);
        due.is("event(3, 0, MAX)", x.event(3, 0, Integer.MAX_VALUE), -1);
    }

    private static void whetherItWaits(Due due) {
        due.says("3 whether it waits (1 or 0)");
        PointReports x = Wire.threeClasses();
        Wire.changes(x, 0, 2, 0);
        Wire.inject(x, 1, 192, 1, 60, 2, 6);
        Wire.changes(x, 0, 1, 0);
        due.is("event(1, 1, 3), the last in the response", x.event(1, 1, 3), 1);
        due.is("event(1, 2, 3), the first behind it", x.event(1, 2, 3), 0);
        due.is("event(1, 3, 3)", x.event(1, 3, 3), -1);
    }

    private static void countOfWhat(Due due) {
        due.says("BAD: another number");
        PointReports x = new PointReports();
        x.tick();
        x.feed(1);
        due.is("count(-1)", x.count(-1), -1);
        due.is("count(0)", x.count(0), 1);
        due.is("count(11)", x.count(11), 1);
        due.is("count(12)", x.count(12), -1);
        due.is("count(MIN)", x.count(Integer.MIN_VALUE), -1);
        due.is("count(MAX)", x.count(Integer.MAX_VALUE), -1);
    }

    private static void countOfFrames(Due due) {
        due.says("3 frames dropped (not those alone whose segment does not follow)");
        PointReports x = new PointReports();
        x.poll(1);
        x.bring(0);
        x.twice(1);
        due.is("count(3), the last segment alone", x.count(3), 0);
        x.poke(1, 12, 1);
        x.twice(1);
        due.is("count(3), it does not follow and is spoilt", x.count(3), 1);
        x.poke(1, 12, 1);
        x.poke(0, 12, 1);
        x.twice(0);
        due.is("count(3), a spoilt first segment", x.count(3), 2);
        due.is("count(4)", x.count(4), 0);
    }

    private static void countOfReadingsAndReports(Due due) {
        due.says("5 readings, 6 reports");
        PointReports x = Wire.threeClasses();
        for (int n = 0; n < 17; n++) {
            x.poll(2);
        }
        due.is("count(5), not modulo 16", x.count(5), 17);
        due.no("READ from outside that is dropped", Wire.inject(x, 1, 208, 1, 60, 2, 6));
        due.yes("READ from outside", Wire.inject(x, 1, 192, 1, 60, 2, 6));
        due.is("count(5), readings of the master alone", x.count(5), 17);
        x.change(0, 1);
        x.reports(true);
        Wire.ticks(x, 6);
        due.is("count(6), sent twice", x.count(6), 1);
    }

    private static void countOfWhatWaits(Due due) {
        due.says("10 whether something waits (1 or 0)");
        PointReports x = Wire.threeClasses();
        x.change(0, 1);
        due.is("count(10), an event alone", x.count(10), 0);
        Wire.inject(x, 1, 192, 1, 60, 2, 6);
        due.is("count(10), a response", x.count(10), 1);
        Wire.inject(x, 1, 193, 1, 60, 3, 6);
        due.is("count(10), a response without events", x.count(10), 0);
        x.reports(true);
        x.tick();
        due.is("count(10), a report", x.count(10), 1);
        due.yes("CONFIRM", Wire.inject(x, 1, 208, 0));
        due.is("count(10), confirmed", x.count(10), 0);
    }

    private static void countOfBytes(Due due) {
        due.says("8 and 9 the two bytes the master keeps");
        PointReports x = new PointReports();
        due.is("count(8), none came", x.count(8), 0);
        due.is("count(9), none came", x.count(9), 0);
        Wire.inject(x, 0, 208, 130, 14, 8);
        due.is("count(8)", x.count(8), 14);
        due.is("count(9)", x.count(9), 8);
    }
}
