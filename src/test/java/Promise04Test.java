/** reports: the station may report, or not. */
public final class Promise04Test {
    public static void main(String[] args) {
        Due due = new Due("Promise04Test");
        atFirstNot(due);
        whatWaitsThenWaitsNoMore(due);
        aResponseGoesOnWaiting(due);
        due.end();
    }

    private static void atFirstNot(Due due) {
        PointReports x = Wire.threeClasses();
        x.change(0, 1);
        x.tick();
        due.is("flying() at first", x.flying(), 0);
        x.reports(true);
        due.is("flying() before the tick", x.flying(), 0);
        x.tick();
        due.is("flying() behind the tick", x.flying(), 1);
    }

    private static void whatWaitsThenWaitsNoMore(Due due) {
        PointReports x = Wire.threeClasses();
        x.change(0, 1);
        x.reports(true);
        x.tick();
        x.reports(true);
        due.is("count(10), allowed again", x.count(10), 1);
        due.is("event(1, 0, 3), allowed again", x.event(1, 0, 3), 1);
        x.reports(false);
        due.is("count(10), not allowed", x.count(10), 0);
        due.is("event(1, 0, 3), not allowed", x.event(1, 0, 3), 0);
        Wire.ticks(x, 10);
        due.is("flying(), not allowed", x.flying(), 1);
        due.is("count(6), not allowed", x.count(6), 1);
        // The confirmation of what waits no more comes too late.
        x.bring(0);
        x.bring(0);
        due.is("event(1, 0, 0) behind a late CONFIRM", x.event(1, 0, 0), 0);
        x.reports(true);
        x.tick();
        due.is("count(6), allowed once more", x.count(6), 2);
        due.is("SEQ of the second report", Wire.part(x, 0)[0], 192 + 32 + 16 + 1);
    }

    private static void aResponseGoesOnWaiting(Due due) {
        PointReports x = Wire.threeClasses();
        x.change(0, 1);
        x.poll(2);
        x.bring(0);
        x.reports(false);
        due.is("count(10) with a response", x.count(10), 1);
        due.is("event(1, 0, 3) with a response", x.event(1, 0, 3), 1);
        Wire.bringAll(x);
        due.is("event(1, 0, 0) confirmed", x.event(1, 0, 0), -1);
    }
}
