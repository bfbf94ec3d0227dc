/** taken: the first 200 events taken. */
public final class Promise16Test {
    public static void main(String[] args) {
        Due due = new Due("Promise16Test");
        PointReports x = Wire.threeClasses();
        due.is("taken(0, 0), none", x.taken(0, 0), -1);
        Wire.changes(x, 1, 3, 1000);
        x.change(0, 7);
        x.poll(2 + 4);
        Wire.bringAll(x);
        due.row("the first", event(x, 0), 0, 7, 3, 1);
        due.row("the second", event(x, 1), 1, 1000, 1, 2);
        due.row("the fourth", event(x, 3), 1, 1002, 3, 2);
        for (int wrong : new int[] {4, -1, 200, Integer.MIN_VALUE, Integer.MAX_VALUE}) {
            due.is("taken(" + wrong + ", 0)", x.taken(wrong, 0), -1);
        }
        for (int wrong : new int[] {4, -1, Integer.MIN_VALUE, Integer.MAX_VALUE}) {
            due.is("taken(0, " + wrong + ")", x.taken(0, wrong), -1);
        }
        asTold(due);
        theFirst200(due);
        due.end();
    }

    private static int[] event(PointReports x, int k) {
        return new int[] {x.taken(k, 0), x.taken(k, 1), x.taken(k, 2), x.taken(k, 3)};
    }

    /** Each point has its own last time; an event that came again is not taken. */
    private static void asTold(Due due) {
        PointReports x = new PointReports();
        Wire.inject(x, 0, 208, 130, 0, 0, 32, 2, 4,
            4, 1, 0, 9, 0, 0, 0,
            5, 2, 0, 3, 0, 0, 0,
            4, 3, 0, 8, 0, 0, 0,
            4, 4, 0, 10, 0, 0, 0);
        due.is("count(1)", x.count(1), 3);
        due.is("count(2)", x.count(2), 1);
        due.row("taken 1", event(x, 1), 5, 2, 3, 2);
        due.row("taken 2", event(x, 2), 4, 4, 10, 2);
        due.is("view(4, 0)", x.view(4, 0), 4);
    }

    private static void theFirst200(Due due) {
        PointReports x = new PointReports();
        for (int p = 0; p < 8; p++) {
            x.kind(p, 1);
        }
        x.reports(true);
        for (int n = 0; n < 26; n++) {
            for (int p = 0; p < 8; p++) {
                x.change(p, 1000 + n);
            }
            x.tick();
            Wire.bringAll(x);
        }
        due.is("count(1)", x.count(1), 208);
        due.row("the 200th", event(x, 199), 7, 1024, 24, 1);
        due.is("taken(200, 0)", x.taken(200, 0), -1);
        due.is("taken(207, 0)", x.taken(207, 0), -1);
        due.row("the first", event(x, 0), 0, 1000, 0, 1);
        due.is("view(0, 0)", x.view(0, 0), 1025);
    }
}
