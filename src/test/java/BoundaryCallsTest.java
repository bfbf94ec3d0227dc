/** Promises 1 to 9: at each edge that they name, the last value inside and the first one outside. */
public final class BoundaryCallsTest {
    public static void main(String[] args) {
        Due due = new Due("BoundaryCallsTest");
        allPointsZero(due);
        noEvents(due);
        nothingInFlight(due);
        kindOfAPoint(due);
        kindOfAClass(due);
        kindRefused(due);
        changeOfAPoint(due);
        changeToAValue(due);
        changeToTheSame(due);
        changedAlready(due);
        changeRefused(due);
        atFirstNot(due);
        thenWaitsNoMore(due);
        timeGoesOn(due);
        thenTheStationsTick(due);
        the512thCall(due);
        pollOfASum(due);
        pollRefused(due);
        pollInOrder(due);
        bringNoneSuch(due);
        bringIsNoMoreInFlight(due);
        bringOfAFullLine(due);
        twiceNoneSuch(due);
        twiceStays(due);
        loseNoneSuch(due);
        loseOfAFullLine(due);
        due.end();
    }

    /** What can be seen of an object by its counts. */
    private static int[] counts(PointReports x) {
        int[] all = new int[13];
        for (int what = 0; what < 12; what++) {
            all[what] = x.count(what);
        }
        all[12] = x.flying();
        return all;
    }

    /** So many READs of class 1 in flight, with the numbers from 0 on. */
    private static PointReports asked(int many) {
        PointReports x = new PointReports();
        for (int n = 0; n < many; n++) {
            x.poll(2);
        }
        return x;
    }

    private static void allPointsZero(Due due) {
        due.says("All points 0, no events, time 0");
        PointReports x = new PointReports();
        due.is("count(0)", x.count(0), 0);
        due.row("counts", counts(x), new int[13]);
        for (int p = 0; p < 10; p++) {
            due.is("view(" + p + ", 0)", x.view(p, 0), 0);
            due.is("view(" + p + ", 1)", x.view(p, 1), -1);
        }
        x.poll(1);
        x.bring(0);
        int[] response = Wire.fragment(x, 0, 2);
        for (int p = 0; p < 10; p++) {
            due.is("value of point " + p, response[8 + 3 * p] + 256 * response[9 + 3 * p], 0);
        }
    }

    private static void noEvents(Due due) {
        due.says("All points 0, no events, time 0");
        PointReports x = new PointReports();
        for (int cls = 1; cls <= 3; cls++) {
            due.is("event(" + cls + ", 0, 0)", x.event(cls, 0, 0), -1);
        }
        due.is("taken(0, 0)", x.taken(0, 0), -1);
        x.reports(true);
        x.tick();
        due.is("flying() behind a tick", x.flying(), 0);
    }

    private static void nothingInFlight(Due due) {
        due.says("nothing in flight");
        PointReports x = new PointReports();
        due.is("flying()", x.flying(), 0);
        due.is("bring(0)", x.bring(0), -1);
        due.is("twice(0)", x.twice(0), -1);
        due.is("lose(0)", x.lose(0), -1);
        due.no("poke(0, 0, 1)", x.poke(0, 0, 1));
        due.is("at(0, 0)", x.at(0, 0), -1);
        due.row("counts", counts(x), new int[13]);
    }

    private static void kindOfAPoint(Due due) {
        due.says("A point's class, 0 .. 3. False: none such");
        PointReports x = new PointReports();
        due.no("kind(-1, 1)", x.kind(-1, 1));
        due.yes("kind(0, 1)", x.kind(0, 1));
        due.yes("kind(9, 1)", x.kind(9, 1));
        due.no("kind(10, 1)", x.kind(10, 1));
        due.no("kind(MIN, 1)", x.kind(Integer.MIN_VALUE, 1));
        due.no("kind(MAX, 1)", x.kind(Integer.MAX_VALUE, 1));
        x.change(0, 1);
        x.change(9, 1);
        x.change(1, 1);
        due.is("event(1, 0, 0)", x.event(1, 0, 0), 0);
        due.is("event(1, 1, 0)", x.event(1, 1, 0), 9);
        due.is("event(1, 2, 0)", x.event(1, 2, 0), -1);
    }

    private static void kindOfAClass(Due due) {
        due.says("A point's class, 0 .. 3. False: none such");
        for (int cls = -1; cls <= 4; cls++) {
            PointReports x = new PointReports();
            due.is("kind(5, " + cls + ")", x.kind(5, cls), cls >= 0 && cls <= 3);
            x.change(5, 1);
            for (int of = 1; of <= 3; of++) {
                due.is("event(" + of + ", 0, 0), class " + cls, x.event(of, 0, 0), of == cls ? 5 : -1);
            }
        }
    }

    private static void kindRefused(Due due) {
        due.says("A point's class, 0 .. 3. False: none such");
        PointReports x = Wire.threeClasses();
        for (int wrong : new int[] {-1, 4, Integer.MIN_VALUE, Integer.MAX_VALUE}) {
            due.no("kind(1, " + wrong + ")", x.kind(1, wrong));
        }
        x.change(1, 7);
        due.is("event(2, 0, 1), its class is as before", x.event(2, 0, 1), 7);
    }

    private static void changeOfAPoint(Due due) {
        due.says("False: none such; it changed at this time already");
        PointReports x = new PointReports();
        due.no("change(-1, 1)", x.change(-1, 1));
        due.yes("change(0, 1)", x.change(0, 1));
        due.yes("change(9, 2)", x.change(9, 2));
        due.no("change(10, 1)", x.change(10, 1));
        due.no("change(MIN, 1)", x.change(Integer.MIN_VALUE, 1));
        due.no("change(MAX, 1)", x.change(Integer.MAX_VALUE, 1));
        x.poll(1);
        Wire.bringAll(x);
        due.is("view(0, 0)", x.view(0, 0), 1);
        due.is("view(9, 0)", x.view(9, 0), 2);
    }

    private static void changeToAValue(Due due) {
        due.says("and a value 0 .. 65,535 (0)");
        int[] values = {-1, 0, 1, 65534, 65535, 65536, Integer.MIN_VALUE, Integer.MAX_VALUE};
        for (int value : values) {
            PointReports x = Wire.threeClasses();
            boolean is = value >= 0 && value <= 65535;
            due.is("change(0, " + value + ")", x.change(0, value), is);
            due.is("event(1, 0, 1)", x.event(1, 0, 1), is ? value : -1);
            x.poll(3);
            Wire.bringAll(x);
            due.is("view(0, 0)", x.view(0, 0), is ? value : 0);
            due.is("taken(0, 1)", x.taken(0, 1), is ? value : -1);
        }
    }

    private static void changeToTheSame(Due due) {
        due.says("A point's value changes, at the time that is (also to the same one)");
        PointReports x = Wire.threeClasses();
        due.yes("change(0, 0), as it was made", x.change(0, 0));
        x.tick();
        due.yes("change(0, 0) again", x.change(0, 0));
        due.is("event(1, 0, 2)", x.event(1, 0, 2), 0);
        due.is("event(1, 1, 2)", x.event(1, 1, 2), 1);
    }

    private static void changedAlready(Due due) {
        due.says("it changed at this time already");
        PointReports x = Wire.threeClasses();
        due.yes("change(0, 1) at 0", x.change(0, 1));
        due.no("change(0, 2) at 0", x.change(0, 2));
        due.no("change(0, 1) at 0, the same", x.change(0, 1));
        due.yes("change(1, 1) at 0, another point", x.change(1, 1));
        x.tick();
        due.yes("change(0, 3) at 1", x.change(0, 3));
        due.no("change(0, 4) at 1", x.change(0, 4));
        due.is("event(1, 0, 1)", x.event(1, 0, 1), 1);
        due.is("event(1, 1, 1)", x.event(1, 1, 1), 3);
        due.is("event(1, 2, 1)", x.event(1, 2, 1), -1);
    }

    private static void changeRefused(Due due) {
        due.says("False: none such; it changed at this time already");
        PointReports x = Wire.threeClasses();
        Wire.changes(x, 0, 8, 0);
        int[] before = counts(x);
        due.no("change(0, 9), a ninth at the same time", x.change(0, 9));
        due.no("change(1, 65536)", x.change(1, 65536));
        due.no("change(10, 0)", x.change(10, 0));
        due.row("counts", counts(x), before);
        due.is("event(1, 0, 1), nothing is lost", x.event(1, 0, 1), 0);
        due.yes("change(1, 65535) behind a refused one", x.change(1, 65535));
    }

    private static void atFirstNot(Due due) {
        due.says("(at first not; a report that waits then waits no more)");
        PointReports x = Wire.threeClasses();
        x.change(0, 1);
        Wire.ticks(x, 3);
        due.is("count(6)", x.count(6), 0);
        due.is("flying()", x.flying(), 0);
        due.is("count(10)", x.count(10), 0);
    }

    private static void thenWaitsNoMore(Due due) {
        due.says("(at first not; a report that waits then waits no more)");
        PointReports x = Wire.threeClasses();
        x.change(0, 1);
        x.reports(true);
        x.tick();
        x.reports(true);
        due.is("count(10), it may", x.count(10), 1);
        x.reports(false);
        due.is("count(10), it may not", x.count(10), 0);
        due.is("event(1, 0, 3), it may not", x.event(1, 0, 3), 0);
        due.yes("CONFIRM", Wire.inject(x, 1, 208, 0));
        due.is("event(1, 0, 0)", x.event(1, 0, 0), 0);
        Wire.ticks(x, 5);
        due.is("flying(), not sent again", x.flying(), 1);
        Wire.inject(x, 1, 192, 1, 60, 2, 6);
        x.reports(false);
        due.is("count(10), a response", x.count(10), 1);
    }

    private static void timeGoesOn(Due due) {
        due.says("Time goes on by 1");
        PointReports x = new PointReports();
        due.is("count(0)", x.count(0), 0);
        due.is("tick()", x.tick(), 1);
        due.is("count(0)", x.count(0), 1);
        due.is("tick()", x.tick(), 2);
        due.is("count(0)", x.count(0), 2);
    }

    private static void thenTheStationsTick(Due due) {
        due.says("Time goes on by 1: then the station's tick");
        PointReports x = Wire.threeClasses();
        x.reports(true);
        x.change(0, 1);
        x.tick();
        due.is("the event's time is the one before", x.at(0, 21), 0);
        // Sent at time 1: by the time that is then, the next sending is due at 6.
        for (int t = 2; t <= 6; t++) {
            due.is("flying() before " + t, x.flying(), 1);
            due.is("tick()", x.tick(), t);
        }
        due.is("flying() at 6", x.flying(), 2);
    }

    private static void the512thCall(Due due) {
        due.says("An object is used for at most 512 calls after it has been made");
        PointReports x = new PointReports();
        Wire.ticks(x, 511);
        due.is("tick(), call 512", x.tick(), 512);
        PointReports y = new PointReports();
        for (int n = 0; n < 511; n++) {
            y.poll(15);
        }
        due.is("poll(15), call 512", y.poll(15), 511 % 16);
    }

    private static void pollOfASum(Due due) {
        due.says("BAD: not 1 .. 15");
        int[] sums = {Integer.MIN_VALUE, -1, 0, 1, 15, 16, 17, Integer.MAX_VALUE};
        for (int sum : sums) {
            PointReports x = new PointReports();
            boolean is = sum >= 1 && sum <= 15;
            due.is("poll(" + sum + ")", x.poll(sum), is ? 0 : -1);
            due.is("flying()", x.flying(), is ? 1 : 0);
        }
    }

    private static void pollRefused(Due due) {
        due.says("BAD: not 1 .. 15");
        PointReports x = new PointReports();
        due.is("poll(1)", x.poll(1), 0);
        int[] before = counts(x);
        due.is("poll(0)", x.poll(0), -1);
        due.is("poll(16)", x.poll(16), -1);
        due.row("counts", counts(x), before);
        due.yes("RESPONSE to the reading before", Wire.inject(x, 0, 192, 129, 0, 0));
        due.is("poll(0)", x.poll(0), -1);
        due.no("RESPONSE to no new reading", Wire.inject(x, 0, 192, 129, 0, 0));
        due.is("poll(15), the next SEQ", x.poll(15), 1);
    }

    private static void pollInOrder(Due due) {
        due.says("the sum of 1 (what is so), 2, 4, 8 (classes 1, 2, 3), asked in the order of these");
        int[] sums = {1, 2, 4, 8};
        for (int n = 0; n < 4; n++) {
            PointReports x = new PointReports();
            x.poll(sums[n]);
            due.row("poll(" + sums[n] + ")", Wire.part(x, 0), 192, 1, 60, n + 1, 6);
        }
        PointReports y = new PointReports();
        y.poll(15);
        due.row("poll(15)", Wire.part(y, 0), 192, 1, 60, 1, 6, 60, 2, 6, 60, 3, 6, 60, 4, 6);
        PointReports z = new PointReports();
        z.poll(9);
        due.row("poll(9)", Wire.part(z, 0), 192, 1, 60, 1, 6, 60, 4, 6);
    }

    private static void bringNoneSuch(Due due) {
        due.says("how many are then. BAD: none such");
        PointReports x = asked(2);
        int[] before = counts(x);
        for (int wrong : new int[] {-1, 2, 40, Integer.MIN_VALUE, Integer.MAX_VALUE}) {
            due.is("bring(" + wrong + ")", x.bring(wrong), -1);
        }
        due.row("counts", counts(x), before);
        due.is("bring(1), the last", x.bring(1), 2);
        due.is("bring(0), the first", x.bring(0), 2);
    }

    private static void bringIsNoMoreInFlight(Due due) {
        due.says("Frame i in flight comes to where it goes, and is no more in flight");
        PointReports x = new PointReports();
        Wire.inject(x, 0, 240, 130, 0, 0);
        due.is("flying()", x.flying(), 1);
        due.is("bring(0), the only one", x.bring(0), 0);
        due.is("flying() then", x.flying(), 0);
        due.is("bring(0), none", x.bring(0), -1);
    }

    private static void bringOfAFullLine(Due due) {
        due.says("Frame i in flight comes to where it goes, and is no more in flight");
        PointReports x = asked(40);
        due.is("bring(40)", x.bring(40), -1);
        due.is("bring(39), one leaves and one comes", x.bring(39), 40);
        due.is("the oldest is there", x.at(0, 10), 192);
        due.is("the response is the last", x.at(39, 12), 129);
        due.is("bring(0), one leaves and one comes", x.bring(0), 40);
        due.is("the second is the oldest", x.at(0, 10), 193);
    }

    private static void twiceNoneSuch(Due due) {
        due.says("The same, but it stays");
        PointReports x = asked(2);
        int[] before = counts(x);
        for (int wrong : new int[] {-1, 2, 40, Integer.MIN_VALUE, Integer.MAX_VALUE}) {
            due.is("twice(" + wrong + ")", x.twice(wrong), -1);
        }
        due.row("counts", counts(x), before);
        due.is("twice(1), the last", x.twice(1), 3);
        due.is("twice(0), the first", x.twice(0), 4);
    }

    private static void twiceStays(Due due) {
        due.says("The same, but it stays");
        PointReports x = asked(39);
        due.is("twice(38), a response comes", x.twice(38), 40);
        due.is("it stays", x.at(38, 10), 192 + 38);
        due.is("the oldest is there", x.at(0, 10), 192);
        due.is("twice(38), more than 40", x.twice(38), 40);
        due.is("it stays, as the one before", x.at(37, 10), 192 + 38);
        due.is("the oldest is lost", x.at(0, 10), 193);
    }

    private static void loseNoneSuch(Due due) {
        due.says("Frame i is lost: how many are then. BAD: none such");
        PointReports x = asked(3);
        int[] before = counts(x);
        for (int wrong : new int[] {-1, 3, 40, Integer.MIN_VALUE, Integer.MAX_VALUE}) {
            due.is("lose(" + wrong + ")", x.lose(wrong), -1);
        }
        due.row("counts", counts(x), before);
        due.is("lose(2), the last", x.lose(2), 2);
        due.is("lose(2)", x.lose(2), -1);
        due.is("lose(0), the first", x.lose(0), 1);
        due.is("the second is there", x.at(0, 10), 193);
        due.is("lose(0)", x.lose(0), 0);
        due.is("lose(0), none", x.lose(0), -1);
        due.is("nothing has come", x.count(3) + x.count(4), 0);
    }

    private static void loseOfAFullLine(Due due) {
        due.says("Frame i is lost: how many are then. BAD: none such");
        PointReports x = asked(40);
        due.is("lose(40)", x.lose(40), -1);
        due.is("lose(39)", x.lose(39), 39);
        due.is("lose(39)", x.lose(39), -1);
        x.poll(2);
        due.is("the oldest is there, with 40 again", x.at(0, 10), 192);
        due.is("the newest", x.at(39, 10), 192 + 40);
    }
}
