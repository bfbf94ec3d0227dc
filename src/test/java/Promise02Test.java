/** kind: a point's class. */
public final class Promise02Test {
    public static void main(String[] args) {
        Due due = new Due("Promise02Test");
        allPairs(due);
        wrongOnes(due);
        eventsStayInTheirClass(due);
        due.end();
    }

    private static void allPairs(Due due) {
        for (int p = 0; p < 10; p++) {
            for (int c = 0; c <= 3; c++) {
                PointReports x = new PointReports();
                due.yes("kind(" + p + ", " + c + ")", x.kind(p, c));
                x.change(p, 77);
                for (int of = 1; of <= 3; of++) {
                    due.is("event(" + of + ", 0, 0) of class " + c, x.event(of, 0, 0), of == c ? p : -1);
                }
            }
        }
    }

    private static void wrongOnes(Due due) {
        PointReports x = new PointReports();
        x.kind(0, 2);
        for (int wrong : new int[] {-1, 10, Integer.MIN_VALUE, Integer.MAX_VALUE}) {
            due.no("kind(" + wrong + ", 1)", x.kind(wrong, 1));
        }
        for (int wrong : new int[] {-1, 4, Integer.MIN_VALUE, Integer.MAX_VALUE}) {
            due.no("kind(0, " + wrong + ")", x.kind(0, wrong));
        }
        x.change(0, 5);
        due.is("event(2, 0, 1) behind wrong kinds", x.event(2, 0, 1), 5);
    }

    private static void eventsStayInTheirClass(Due due) {
        PointReports x = new PointReports();
        x.kind(4, 1);
        x.change(4, 1);
        x.kind(4, 3);
        x.tick();
        x.change(4, 2);
        x.kind(4, 0);
        x.tick();
        x.change(4, 3);
        due.is("event(1, 0, 1)", x.event(1, 0, 1), 1);
        due.is("event(3, 0, 1)", x.event(3, 0, 1), 2);
        due.is("event(1, 1, 1)", x.event(1, 1, 1), -1);
        due.is("event(3, 1, 1)", x.event(3, 1, 1), -1);
    }
}
