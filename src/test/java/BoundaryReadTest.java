/** The edges that the document's words on a READ and its RESPONSE name. */
public final class BoundaryReadTest {
    public static void main(String[] args) {
        Due due = new Due("BoundaryReadTest");
        oneToFourTimes(due);
        sixtyAndSix(due);
        oneToFour(due);
        eachOnce(due);
        eachOnceOfSixteen(due);
        inTheOrderAsked(due);
        sequence(due);
        sixteenOfSixteen(due);
        sixteenOfSeventeen(due);
        sixteenOfTwentyFour(due);
        sixteenInAnyOrder(due);
        noEvents(due);
        noGroup(due);
        allOfThem(due);
        classesLeft(due);
        whatWaitedBefore(due);
        due.end();
    }

    /** So many events of the classes 1, 2 and 3, for point 0, 1 and 2; at most 8 of each. */
    private static PointReports withEvents(int one, int two, int three) {
        PointReports x = Wire.threeClasses();
        for (int n = 0; n < 8; n++) {
            x.tick();
            if (n < one) {
                x.change(0, 100 + n);
            }
            if (n < two) {
                x.change(1, 200 + n);
            }
            if (n < three) {
                x.change(2, 300 + n);
            }
        }
        return x;
    }

    /** The response to a READ of these, which it brings to the station; none: it was dropped. */
    private static int[] response(PointReports x, int... asked) {
        int[] read = new int[2 + 3 * asked.length];
        read[0] = 192;
        read[1] = 1;
        for (int n = 0; n < asked.length; n++) {
            read[2 + 3 * n] = 60;
            read[3 + 3 * n] = asked[n];
            read[4 + 3 * n] = 6;
        }
        int before = x.flying();
        return Wire.inject(x, 1, read) ? Wire.fragment(x, before, x.flying() - before) : new int[0];
    }

    private static void oneToFourTimes(Due due) {
        due.says("READ: 1 to 4 times 60, v, 6");
        PointReports x = new PointReports();
        due.no("no time", Wire.inject(x, 1, 192, 1));
        due.is("count(4)", x.count(4), 1);
        due.is("flying()", x.flying(), 0);
        due.is("one time", response(x, 2).length, 4);
        due.is("four times", response(x, 2, 3, 4, 1).length, 37);
        due.is("five times", response(x, 2, 3, 4, 1, 2).length, 0);
        due.is("count(4)", x.count(4), 2);
        due.no("a byte too few", Wire.inject(x, 1, 192, 1, 60, 2));
        due.no("a byte too many", Wire.inject(x, 1, 192, 1, 60, 2, 6, 60));
        due.no("two bytes too many", Wire.inject(x, 1, 192, 1, 60, 2, 6, 60, 2));
        due.no("a byte behind four times",
            Wire.inject(x, 1, 192, 1, 60, 2, 6, 60, 3, 6, 60, 4, 6, 60, 1, 6, 60));
        due.is("count(4) then", x.count(4), 6);
        due.is("flying() then", x.flying(), 3);
    }

    private static void sixtyAndSix(Due due) {
        due.says("READ: 1 to 4 times 60, v, 6");
        PointReports x = new PointReports();
        for (int more = -1; more <= 1; more++) {
            due.is("60 and " + more, Wire.inject(x, 1, 192, 1, 60 + more, 2, 6), more == 0);
            due.is("6 and " + more, Wire.inject(x, 1, 192, 1, 60, 2, 6 + more), more == 0);
            due.is("60 and " + more + ", the fourth time",
                Wire.inject(x, 1, 192, 1, 60, 2, 6, 60, 3, 6, 60, 4, 6, 60 + more, 2, 6), more == 0);
            due.is("6 and " + more + ", the fourth time",
                Wire.inject(x, 1, 192, 1, 60, 2, 6, 60, 3, 6, 60, 4, 6, 60, 2, 6 + more), more == 0);
        }
        due.is("count(4)", x.count(4), 8);
    }

    private static void oneToFour(Due due) {
        due.says("with v 1 (what is so), 2, 3, 4 (events of class 1, 2, 3)");
        PointReports x = withEvents(1, 1, 1);
        due.is("v 0", response(x, 0).length, 0);
        due.is("v 1", response(x, 1)[4], 30);
        due.is("v 2, its class", response(x, 2)[5], 1);
        due.is("v 3, its class", response(x, 3)[5], 2);
        due.is("v 4, its class", response(x, 4)[5], 3);
        due.is("v 5", response(x, 5).length, 0);
        due.is("v 255", response(x, 255).length, 0);
        due.is("v 0 behind v 1", response(x, 1, 0).length, 0);
        due.is("v 5 behind v 4", response(x, 4, 5).length, 0);
        due.is("count(4)", x.count(4), 5);
        due.is("what waits still waits", x.event(3, 0, 3), 1);
    }

    private static void eachOnce(Due due) {
        due.says("by v, in the order asked, each v once");
        PointReports x = withEvents(2, 1, 0);
        due.is("class 1 once", response(x, 2).length, 4 + 3 + 14);
        due.is("class 1 asked twice", response(x, 2, 2).length, 4 + 3 + 14);
        due.is("class 1 asked four times", response(x, 2, 2, 2, 2).length, 4 + 3 + 14);
        due.is("what is so asked twice", response(x, 1, 1).length, 4 + 33);
        due.is("two classes asked in turn", response(x, 2, 3, 2, 3).length, 4 + 3 + 14 + 3 + 7);
        due.is("count(4)", x.count(4), 0);
    }

    /** Eight of the sixteen are not taken a second time. */
    private static void eachOnceOfSixteen(Due due) {
        due.says("by v, in the order asked, each v once");
        PointReports x = withEvents(8, 8, 0);
        int[] r = response(x, 2, 2, 3);
        due.is("length", r.length, 4 + 2 * (3 + 56));
        due.is("the second group's class", r[4 + 59 + 1], 2);
    }

    private static void inTheOrderAsked(Due due) {
        due.says("by v, in the order asked, each v once");
        PointReports x = withEvents(1, 1, 1);
        int[] r = response(x, 4, 1, 3, 2);
        due.is("length", r.length, 4 + 3 * 10 + 33);
        due.is("class of the first group", r[5], 3);
        due.is("the second group", r[14], 30);
        due.is("class of the third group", r[48], 2);
        due.is("class of the fourth group", r[58], 1);
    }

    private static void sequence(Due due) {
        due.says("it responds with that SEQ");
        PointReports x = withEvents(1, 0, 0);
        for (int seq : new int[] {0, 1, 14, 15}) {
            Wire.inject(x, 1, 192 + seq, 1, 60, 3, 6);
            due.is("without CON, SEQ " + seq, x.at(0, 11), 192 + seq);
            Wire.inject(x, 1, 192 + seq, 1, 60, 2, 6);
            due.is("with CON, SEQ " + seq, x.at(1, 11), 192 + 32 + seq);
            x.lose(0);
            x.lose(0);
        }
    }

    private static void sixteenOfSixteen(Due due) {
        due.says("but at most 16 in all");
        PointReports x = withEvents(8, 7, 1);
        int[] r = response(x, 2, 3, 4);
        due.is("length with 16", r.length, 4 + 9 + 16 * 7);
        due.is("events in the third group", r[4 + 59 + 52 + 2], 1);
        due.is("none is left", r[2], 0);
        due.is("event(3, 0, 3)", x.event(3, 0, 3), 1);
        due.yes("CONFIRM", Wire.inject(x, 1, 192, 0));
        due.is("event(3, 0, 0)", x.event(3, 0, 0), -1);
    }

    private static void sixteenOfSeventeen(Due due) {
        due.says("but at most 16 in all");
        PointReports x = withEvents(8, 7, 2);
        int[] r = response(x, 2, 3, 4);
        due.is("length with 17", r.length, 4 + 9 + 16 * 7);
        due.is("events in the third group", r[4 + 59 + 52 + 2], 1);
        due.is("the oldest of them", r[4 + 59 + 52 + 3 + 1] + 256 * r[4 + 59 + 52 + 3 + 2], 300);
        due.is("one is left", r[2], 8);
        due.is("event(3, 0, 3)", x.event(3, 0, 3), 1);
        due.is("event(3, 1, 3)", x.event(3, 1, 3), 0);
        due.yes("CONFIRM", Wire.inject(x, 1, 192, 0));
        due.is("event(3, 0, 1)", x.event(3, 0, 1), 301);
        due.is("event(3, 1, 1)", x.event(3, 1, 1), -1);
    }

    private static void sixteenOfTwentyFour(Due due) {
        due.says("but at most 16 in all");
        PointReports x = withEvents(8, 8, 8);
        int[] r = response(x, 2, 3, 4);
        due.is("length with 24, no third group", r.length, 4 + 6 + 16 * 7);
        due.is("a class is left", r[2], 8);
        due.is("event(2, 7, 3)", x.event(2, 7, 3), 1);
        due.is("event(3, 0, 3)", x.event(3, 0, 3), 0);
    }

    private static void sixteenInAnyOrder(Due due) {
        due.says("but at most 16 in all");
        PointReports x = withEvents(8, 2, 7);
        int[] r = response(x, 4, 3, 1, 2);
        due.is("length", r.length, 4 + 9 + 16 * 7 + 33);
        due.is("events in the last group", r[4 + 52 + 17 + 33 + 2], 7);
        due.is("one is left", r[2], 2);
        due.is("event(1, 6, 3)", x.event(1, 6, 3), 1);
        due.is("event(1, 7, 3)", x.event(1, 7, 3), 0);
    }

    private static void noEvents(Due due) {
        due.says("if there are events, it is sent with CON, and these are the ones that WAIT");
        PointReports x = withEvents(1, 0, 0);
        due.is("none of class 2: without CON", response(x, 3)[0], 192);
        due.is("count(10)", x.count(10), 0);
        due.is("what is so: without CON", response(x, 1)[0], 192);
        due.is("count(10)", x.count(10), 0);
        due.is("one of class 1: with CON", response(x, 2)[0], 192 + 32);
        due.is("count(10)", x.count(10), 1);
        due.is("event(1, 0, 3)", x.event(1, 0, 3), 1);
    }

    private static void noGroup(Due due) {
        due.says("a class of which none comes has no group");
        PointReports x = withEvents(1, 0, 1);
        due.row("class 2", response(x, 3), 192, 129, 2 + 8, 0);
        int[] r = response(x, 2, 3, 4);
        due.is("length of all three", r.length, 4 + 2 * 10);
        due.is("class of the first group", r[5], 1);
        due.is("class of the second group", r[15], 3);
    }

    private static void allOfThem(Due due) {
        due.says("30, 2, 10, and for each point (all of them) its number, value (2 bytes)");
        PointReports x = new PointReports();
        x.change(0, 1);
        x.change(9, 65535);
        int[] r = response(x, 1);
        due.is("length", r.length, 4 + 3 + 10 * 3);
        for (int p = 0; p < 10; p++) {
            due.is("number of point " + p, r[7 + 3 * p], p);
            due.is("value of point " + p, r[8 + 3 * p] + 256 * r[9 + 3 * p], p == 0 ? 1 : p == 9 ? 65535 : 0);
        }
    }

    private static void classesLeft(Due due) {
        due.says("a byte (2, 4, 8, added up, for classes 1, 2, 3 of which there are events that this fragment has not)");
        for (int sum = 0; sum < 8; sum++) {
            PointReports x = withEvents(sum & 1, sum >> 1 & 1, sum >> 2 & 1);
            due.is("with what is so", response(x, 1)[2], 2 * sum);
            due.is("with class 1", response(x, 2)[2], 2 * (sum & 6));
            due.is("with class 2", response(x, 3)[2], 2 * (sum & 5));
            due.is("with class 3", response(x, 4)[2], 2 * (sum & 3));
            due.is("with all", response(x, 2, 3, 4)[2], 0);
        }
    }

    private static void whatWaitedBefore(Due due) {
        due.says("What waited before waits no more");
        PointReports x = withEvents(1, 1, 0);
        response(x, 2);
        due.is("event(1, 0, 3)", x.event(1, 0, 3), 1);
        response(x, 4);
        due.is("event(1, 0, 3) behind a response without events", x.event(1, 0, 3), 0);
        due.is("count(10)", x.count(10), 0);
        due.yes("CONFIRM of the first", Wire.inject(x, 1, 192, 0));
        due.is("event(1, 0, 0)", x.event(1, 0, 0), 0);
    }
}
