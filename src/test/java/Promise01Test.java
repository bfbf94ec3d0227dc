/** A new object: all points 0, no events, time 0, nothing in flight. */
public final class Promise01Test {
    public static void main(String[] args) {
        Due due = new Due("Promise01Test");
        PointReports x = new PointReports();
        due.is("BAD", PointReports.BAD, -1);
        due.is("flying()", x.flying(), 0);
        for (int what = 0; what <= 11; what++) {
            due.is("count(" + what + ")", x.count(what), 0);
        }
        for (int p = 0; p < 10; p++) {
            due.is("view(" + p + ", 0)", x.view(p, 0), 0);
            due.is("view(" + p + ", 1)", x.view(p, 1), -1);
        }
        for (int c = 1; c <= 3; c++) {
            due.is("event(" + c + ", 0, 0)", x.event(c, 0, 0), -1);
        }
        due.is("taken(0, 0)", x.taken(0, 0), -1);
        pointsAreZeroAndWithoutClass(due);
        objectsAreApart(due);
        due.end();
    }

    private static void pointsAreZeroAndWithoutClass(Due due) {
        PointReports x = new PointReports();
        x.poll(1);
        x.bring(0);
        int[] response = Wire.fragment(x, 0, 2);
        due.is("response's length", response.length, 37);
        for (int p = 0; p < 10; p++) {
            due.is("point " + p, response[7 + 3 * p], p);
            due.is("value low " + p, response[8 + 3 * p], 0);
            due.is("value high " + p, response[9 + 3 * p], 0);
        }
        for (int p = 0; p < 10; p++) {
            due.yes("change(" + p + ", 1)", x.change(p, 1));
        }
        for (int c = 1; c <= 3; c++) {
            due.is("event(" + c + ", 0, 0)", x.event(c, 0, 0), -1);
        }
    }

    private static void objectsAreApart(Due due) {
        PointReports x = new PointReports();
        PointReports y = new PointReports();
        x.tick();
        x.poll(1);
        x.feed(1);
        due.is("y.flying()", y.flying(), 0);
        due.is("y.count(0)", y.count(0), 0);
        due.is("y.count(5)", y.count(5), 0);
        due.is("y.count(11)", y.count(11), 0);
    }
}
