/** flying: how many frames are in flight, 40 at most. */
public final class Promise12Test {
    public static void main(String[] args) {
        Due due = new Due("Promise12Test");
        PointReports x = new PointReports();
        for (int n = 0; n < 40; n++) {
            due.is("flying()", x.flying(), n);
            x.poll(1);
        }
        due.is("flying(), full", x.flying(), 40);
        due.is("the oldest", x.at(0, 10), 192);
        x.poll(1);
        due.is("flying() with one more", x.flying(), 40);
        due.is("the oldest is lost", x.at(0, 10), 193);
        due.is("the newest", x.at(39, 10), 192 + 40);
        due.is("at(40, 0)", x.at(40, 0), -1);
        due.is("nothing counts as dropped", x.count(3), 0);
        byReports(due);
        due.end();
    }

    /** Several frames at once push out as many. */
    private static void byReports(Due due) {
        PointReports x = Wire.threeClasses();
        for (int n = 0; n < 39; n++) {
            x.poll(1);
        }
        Wire.changes(x, 0, 8, 0);
        x.reports(true);
        x.tick();
        due.is("flying()", x.flying(), 40);
        due.is("three are lost", x.at(0, 10), 192 + 3);
        due.is("the report's first segment", x.at(36, 10), 64);
        due.is("the report's last segment", x.at(39, 10), 128 + 3);
    }
}
