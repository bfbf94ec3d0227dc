/** count: each number by itself. */
public final class Promise18Test {
    public static void main(String[] args) {
        Due due = new Due("Promise18Test");
        aRun(due);
        framesDropped(due);
        whatWaits(due);
        PointReports x = new PointReports();
        for (int wrong : new int[] {-1, 12, Integer.MIN_VALUE, Integer.MAX_VALUE}) {
            due.is("count(" + wrong + ")", x.count(wrong), -1);
        }
        due.end();
    }

    private static void counts(Due due, String when, PointReports x, int... want) {
        for (int what = 0; what < want.length; what++) {
            due.is("count(" + what + ") " + when, x.count(what), want[what]);
        }
    }

    private static void aRun(Due due) {
        PointReports x = Wire.threeClasses();
        Wire.changes(x, 0, 10, 0);
        x.change(1, 5);
        counts(due, "with events", x, 10, 0, 0, 0, 0, 0, 0, 2, 0, 0, 0, 0);
        x.poll(2);
        counts(due, "asked", x, 10, 0, 0, 0, 0, 1, 0, 2, 0, 0, 0, 0);
        x.bring(0);
        counts(due, "responded", x, 10, 0, 0, 0, 0, 1, 0, 2, 0, 0, 1, 0);
        for (int n = 0; n < 4; n++) {
            x.bring(0);
        }
        counts(due, "taken", x, 10, 8, 0, 0, 0, 1, 0, 2, 4, 8, 1, 0);
        x.lose(0);
        x.reports(true);
        x.tick();
        counts(due, "reported", x, 11, 8, 0, 0, 0, 1, 1, 2, 4, 8, 1, 0);
        Wire.bringAll(x);
        counts(due, "told", x, 11, 9, 8, 0, 0, 1, 1, 2, 0, 8, 0, 0);
        x.feed(1);
        x.feed(2);
        counts(due, "fed", x, 11, 9, 8, 0, 0, 1, 1, 2, 0, 8, 0, 2);
        x.inject(0);
        counts(due, "dropped", x, 11, 9, 8, 0, 1, 1, 1, 2, 0, 8, 0, 0);
        x.poll(1);
        Wire.bringAll(x);
        x.poll(1);
        Wire.bringAll(x);
        counts(due, "lost is not known any more", x, 11, 9, 8, 0, 1, 3, 1, 2, 0, 0, 0, 0);
    }

    private static void framesDropped(Due due) {
        PointReports x = new PointReports();
        x.poll(1);
        x.poke(0, 5, 1);
        x.twice(0);
        x.poke(0, 5, 1);
        due.is("count(3) at the station", x.count(3), 1);
        x.bring(0);
        x.poke(1, 30, 1);
        x.twice(1);
        due.is("count(3) at the master", x.count(3), 2);
        x.poke(1, 30, 1);
        x.bring(1);
        due.is("count(3), a segment that does not follow", x.count(3), 2);
        due.is("count(4), a segment that does not follow", x.count(4), 0);
        x.lose(0);
        due.is("count(3), a frame lost", x.count(3), 2);
    }

    private static void whatWaits(Due due) {
        PointReports x = Wire.threeClasses();
        x.poll(1);
        x.bring(0);
        due.is("count(10), a response without events", x.count(10), 0);
        x.change(0, 1);
        x.poll(2);
        x.bring(2);
        due.is("count(10), a response with one", x.count(10), 1);
        x.poll(4);
        x.bring(x.flying() - 1);
        due.is("count(10), a response without, behind it", x.count(10), 0);
        due.is("event(1, 0, 3)", x.event(1, 0, 3), 0);
    }
}
