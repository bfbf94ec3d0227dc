/** The two runs that README.md shows. */
public final class ReadmeTest {
    public static void main(String[] args) {
        Due due = new Due("ReadmeTest");
        masterReads(due);
        stationReports(due);
        due.end();
    }

    private static void masterReads(Due due) {
        PointReports x = new PointReports();
        due.yes("kind(3, 1)", x.kind(3, 1));
        due.yes("change(3, 500)", x.change(3, 500));
        due.is("poll(1 + 2)", x.poll(1 + 2), 0);
        while (x.flying() > 0) {
            x.bring(0);
        }
        due.is("view(3, 0)", x.view(3, 0), 500);
        due.is("taken(0, 2)", x.taken(0, 2), 0);
        due.is("event(1, 0, 0)", x.event(1, 0, 0), PointReports.BAD);
    }

    private static void stationReports(Due due) {
        PointReports x = new PointReports();
        x.kind(3, 1);
        x.change(3, 500);
        x.reports(true);
        due.is("tick()", x.tick(), 1);
        due.is("flying()", x.flying(), 1);
        due.yes("poke(0, 12, 4)", x.poke(0, 12, 4));
        due.is("bring(0)", x.bring(0), 0);
        due.is("count(3)", x.count(3), 1);
        for (int n = 0; n < 5; n++) {
            x.tick();
        }
        due.is("bring(0)", x.bring(0), 1);
        due.is("view(3, 0)", x.view(3, 0), 500);
        due.is("event(1, 0, 3)", x.event(1, 0, 3), 1);
        due.is("bring(0)", x.bring(0), 0);
        due.is("event(1, 0, 3)", x.event(1, 0, 3), PointReports.BAD);
    }
}
