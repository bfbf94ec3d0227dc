/** event: what the station keeps. */
public final class Promise17Test {
    public static void main(String[] args) {
        Due due = new Due("Promise17Test");
        PointReports x = Wire.threeClasses();
        x.kind(8, 3);
        Wire.changes(x, 2, 2, 500);
        x.change(8, 65535);
        due.row("event 0", event(x, 3, 0), 2, 500, 1, 0);
        due.row("event 1", event(x, 3, 1), 2, 501, 2, 0);
        due.row("event 2", event(x, 3, 2), 8, 65535, 2, 0);
        due.row("event 3", event(x, 3, 3), -1, -1, -1, -1);
        for (int wrong : new int[] {0, 4, -1, Integer.MIN_VALUE, Integer.MAX_VALUE}) {
            due.is("event(" + wrong + ", 0, 0)", x.event(wrong, 0, 0), -1);
        }
        for (int wrong : new int[] {3, 8, -1, Integer.MIN_VALUE, Integer.MAX_VALUE}) {
            due.is("event(3, " + wrong + ", 0)", x.event(3, wrong, 0), -1);
        }
        for (int wrong : new int[] {4, -1, Integer.MIN_VALUE, Integer.MAX_VALUE}) {
            due.is("event(3, 0, " + wrong + ")", x.event(3, 0, wrong), -1);
        }
        x.poll(8);
        x.bring(0);
        x.tick();
        x.change(2, 7);
        due.row("event 2 waits", event(x, 3, 2), 8, 65535, 2, 1);
        due.row("event 3 does not", event(x, 3, 3), 2, 7, 3, 0);
        Wire.bringAll(x);
        due.row("event 3 is the first now", event(x, 3, 0), 2, 7, 3, 0);
        due.is("event(3, 1, 0)", x.event(3, 1, 0), -1);
        lostWhileTheyWait(due);
        lostWhileOthersWait(due);
        due.end();
    }

    private static int[] event(PointReports x, int cls, int k) {
        return new int[] {x.event(cls, k, 0), x.event(cls, k, 1), x.event(cls, k, 2), x.event(cls, k, 3)};
    }

    private static void lostWhileTheyWait(Due due) {
        PointReports x = Wire.threeClasses();
        Wire.changes(x, 0, 3, 10);
        x.poll(2);
        x.bring(0);
        Wire.changes(x, 0, 7, 20);
        due.row("the one that still waits", event(x, 1, 0), 0, 12, 3, 1);
        due.row("the next does not wait", event(x, 1, 1), 0, 20, 4, 0);
        Wire.bringAll(x);
        due.row("only those that waited are gone", event(x, 1, 0), 0, 20, 4, 0);
        due.is("event(1, 6, 1)", x.event(1, 6, 1), 26);
        due.is("event(1, 7, 1)", x.event(1, 7, 1), -1);
    }

    private static void lostWhileOthersWait(Due due) {
        PointReports x = Wire.threeClasses();
        x.kind(9, 1);
        x.change(1, 5);
        x.poll(4);
        x.bring(0);
        Wire.changes(x, 0, 4, 10);
        Wire.changes(x, 9, 6, 20);
        due.row("the first does not wait", event(x, 1, 0), 0, 12, 3, 0);
        Wire.bringAll(x);
        due.is("the other class is told", x.event(2, 0, 0), -1);
        due.row("this one stays", event(x, 1, 0), 0, 12, 3, 0);
        due.row("points move with their events", event(x, 1, 2), 9, 20, 5, 0);
        due.row("the last", event(x, 1, 7), 9, 25, 10, 0);
    }
}
