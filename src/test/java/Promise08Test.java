/** twice: a frame comes and stays in flight. */
public final class Promise08Test {
    public static void main(String[] args) {
        Due due = new Due("Promise08Test");
        readTwice(due);
        reportTwice(due);
        segmentTwice(due);
        withAFullLine(due);
        PointReports x = new PointReports();
        x.poll(1);
        for (int wrong : new int[] {1, -1, Integer.MIN_VALUE, Integer.MAX_VALUE}) {
            due.is("twice(" + wrong + ")", x.twice(wrong), -1);
        }
        due.end();
    }

    private static void readTwice(Due due) {
        PointReports x = new PointReports();
        x.poll(1);
        int[] before = Wire.frame(x, 0);
        due.is("twice(0)", x.twice(0), 3);
        due.row("it stays", Wire.frame(x, 0), before);
        due.is("twice(0) again", x.twice(0), 5);
        due.is("bring(0)", x.bring(0), 6);
        Wire.bringAll(x);
        due.is("the second and third response are dropped", x.count(4), 2);
    }

    private static void reportTwice(Due due) {
        PointReports x = Wire.threeClasses();
        x.change(0, 9);
        x.reports(true);
        x.tick();
        due.is("twice(0)", x.twice(0), 2);
        due.is("bring(0)", x.bring(0), 2);
        due.is("count(1)", x.count(1), 1);
        due.is("count(2)", x.count(2), 1);
        due.is("the first CONFIRM", x.bring(0), 1);
        due.is("the second does nothing", x.bring(0), 0);
        due.is("count(4)", x.count(4), 0);
    }

    private static void segmentTwice(Due due) {
        PointReports x = new PointReports();
        x.change(9, 5);
        x.poll(1);
        x.bring(0);
        due.is("the first segment may begin anew", x.twice(0), 2);
        due.is("bring(0)", x.bring(0), 1);
        due.is("the last one ends it", x.twice(0), 1);
        due.is("view(9, 0)", x.view(9, 0), 5);
        due.is("and then does not follow", x.bring(0), 0);
        due.is("count(3)", x.count(3), 0);
        due.is("count(4)", x.count(4), 0);
    }

    private static void withAFullLine(Due due) {
        PointReports x = new PointReports();
        for (int n = 0; n < 40; n++) {
            x.poll(2);
        }
        due.is("twice(0)", x.twice(0), 40);
        due.is("it was the oldest, and is lost", x.at(0, 11), 193);
        due.is("the response is the last", x.at(39, 12), 129);
        due.is("SEQ of the response", x.at(39, 11), 192);
    }
}
