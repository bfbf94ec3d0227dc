/** tick: the time, and what the station does in it. */
public final class Promise05Test {
    public static void main(String[] args) {
        Due due = new Due("Promise05Test");
        time(due);
        aReport(due);
        sentAgain(due);
        asItWas(due);
        confirmed(due);
        sixteenAtMost(due);
        numbersOfReports(due);
        whileAResponseWaits(due);
        due.end();
    }

    private static void time(Due due) {
        PointReports x = new PointReports();
        x.reports(true);
        for (int t = 1; t <= 300; t++) {
            due.is("tick()", x.tick(), t);
        }
        due.is("count(0)", x.count(0), 300);
        due.is("flying() without events", x.flying(), 0);
    }

    private static void aReport(Due due) {
        PointReports x = Wire.threeClasses();
        x.reports(true);
        Wire.ticks(x, 300 - 1);
        x.change(2, 513);
        x.change(0, 7);
        x.tick();
        due.is("flying()", x.flying(), 2);
        due.row("the report", Wire.fragment(x, 0, 2), 192 + 32 + 16, 130, 0, 0,
            32, 1, 1, 0, 7, 0, 43, 1, 0, 0,
            32, 3, 1, 2, 1, 2, 43, 1, 0, 0);
        due.is("count(10)", x.count(10), 1);
    }

    private static void sentAgain(Due due) {
        PointReports x = Wire.threeClasses();
        x.reports(true);
        x.change(0, 7);
        int sent = 0;
        for (int t = 1; t <= 60; t++) {
            int turn = (t - 1) % 21;
            sent += turn < 20 && turn % 5 == 0 ? 1 : 0;
            x.tick();
            due.is("flying() at " + t, x.flying(), sent);
            due.is("count(10) at " + t, x.count(10), turn == 20 ? 0 : 1);
            due.is("event(1, 0, 3) at " + t, x.event(1, 0, 3), turn == 20 ? 0 : 1);
            due.is("count(6) at " + t, x.count(6), 1 + (t - 1) / 21);
        }
        for (int i = 0; i < 12; i++) {
            due.is("segment's first byte " + i, x.at(i, 10), 192 + i);
        }
        due.is("SEQ sent again", x.at(3, 11), 192 + 32 + 16);
        due.is("SEQ of the new report", x.at(4, 11), 192 + 32 + 16 + 1);
    }

    private static void asItWas(Due due) {
        PointReports x = Wire.threeClasses();
        x.reports(true);
        x.change(0, 7);
        x.tick();
        int[] first = Wire.part(x, 0);
        Wire.changes(x, 0, 4, 50);
        x.change(1, 5);
        x.tick();
        due.is("flying()", x.flying(), 2);
        due.row("sent again", Wire.part(x, 1), first);
        due.is("the first one waits", x.event(1, 0, 3), 1);
        due.is("a later one does not", x.event(1, 1, 3), 0);
        Wire.changes(x, 0, 5, 60);
        due.is("lost", x.count(7), 2);
        due.is("still waits, though its event is lost", x.count(10), 1);
        due.row("sent again, though its event is lost", Wire.part(x, 2), first);
    }

    private static void confirmed(Due due) {
        PointReports x = Wire.threeClasses();
        x.reports(true);
        x.change(0, 7);
        x.tick();
        x.change(1, 8);
        Wire.bringAll(x);
        due.is("event(1, 0, 0)", x.event(1, 0, 0), -1);
        due.is("event(2, 0, 1)", x.event(2, 0, 1), 8);
        due.is("count(10)", x.count(10), 0);
        x.tick();
        due.is("a new report in the next tick", x.count(6), 2);
        Wire.bringAll(x);
        Wire.ticks(x, 30);
        due.is("flying() when all is told", x.flying(), 0);
        due.is("count(1)", x.count(1), 2);
    }

    private static void sixteenAtMost(Due due) {
        PointReports x = Wire.eightOfEach();
        x.reports(true);
        x.tick();
        int[] report = Wire.fragment(x, 0, x.flying());
        due.is("length", report.length, 4 + 2 * (3 + 8 * 7));
        due.is("class 3 is left", report[2], 8);
        Wire.bringAll(x);
        due.is("event(1, 0, 0)", x.event(1, 0, 0), -1);
        due.is("event(2, 0, 0)", x.event(2, 0, 0), -1);
        due.is("event(3, 0, 0)", x.event(3, 0, 0), 2);
        x.tick();
        report = Wire.fragment(x, 0, x.flying());
        due.is("length of the second", report.length, 4 + 3 + 8 * 7);
        due.is("nothing is left", report[2], 0);
        partOfAClass(due);
    }

    private static void partOfAClass(Due due) {
        PointReports x = Wire.threeClasses();
        Wire.changes(x, 0, 7, 0);
        Wire.changes(x, 1, 7, 0);
        Wire.changes(x, 2, 5, 40);
        x.reports(true);
        x.tick();
        int[] report = Wire.fragment(x, 0, x.flying());
        due.is("of class 3 there are 2", report[4 + 2 * (3 + 7 * 7) + 2], 2);
        due.is("class 3 is left in part", report[2], 8);
        due.is("event(3, 1, 3)", x.event(3, 1, 3), 1);
        due.is("event(3, 2, 3)", x.event(3, 2, 3), 0);
        Wire.bringAll(x);
        due.is("event(3, 0, 1)", x.event(3, 0, 1), 42);
    }

    private static void numbersOfReports(Due due) {
        PointReports x = Wire.threeClasses();
        x.reports(true);
        for (int n = 0; n < 20; n++) {
            x.change(0, n);
            x.tick();
            due.is("SEQ of report " + n, x.at(0, 11), 192 + 32 + 16 + n % 16);
            Wire.bringAll(x);
            due.is("told " + n, x.event(1, 0, 0), -1);
        }
        due.is("count(6)", x.count(6), 20);
    }

    private static void whileAResponseWaits(Due due) {
        PointReports x = Wire.threeClasses();
        x.change(0, 1);
        x.change(1, 2);
        x.poll(4);
        x.bring(0);
        due.is("event(2, 0, 3)", x.event(2, 0, 3), 1);
        due.is("event(1, 0, 3)", x.event(1, 0, 3), 0);
        x.reports(true);
        x.tick();
        due.is("count(6)", x.count(6), 1);
        due.is("event(1, 0, 3) in the report", x.event(1, 0, 3), 1);
        // The response waits no more: its confirmation does nothing.
        x.bring(0);
        x.bring(x.flying() - 1);
        due.is("event(2, 0, 0)", x.event(2, 0, 0), 1);
        due.is("count(10)", x.count(10), 1);
        due.is("count(4)", x.count(4), 0);
    }
}
