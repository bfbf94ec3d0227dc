/** inject: a fragment from outside comes to a side. */
public final class Promise14Test {
    public static void main(String[] args) {
        Due due = new Due("Promise14Test");
        toEitherSide(due);
        anotherSide(due);
        nothingCollected(due);
        besideTheLine(due);
        due.end();
    }

    private static void toEitherSide(Due due) {
        PointReports x = Wire.threeClasses();
        x.change(0, 5);
        due.yes("READ to the station", Wire.inject(x, 1, 197, 1, 60, 2, 6));
        due.is("flying()", x.flying(), 1);
        due.is("SEQ", x.at(0, 11), 192 + 32 + 5);
        due.no("READ to the master", Wire.inject(x, 0, 197, 1, 60, 2, 6));
        due.yes("CONFIRM to the station", Wire.inject(x, 1, 197, 0));
        due.is("event(1, 0, 0)", x.event(1, 0, 0), -1);
        due.no("CONFIRM to the master", Wire.inject(x, 0, 197, 0));
        due.yes("REPORT to the master", Wire.inject(x, 0, 208, 130, 6, 8));
        due.no("REPORT to the station", Wire.inject(x, 1, 208, 130, 6, 8));
        due.no("RESPONSE to the station", Wire.inject(x, 1, 192, 129, 0, 0));
        due.is("count(4)", x.count(4), 4);
        due.is("count(8)", x.count(8), 6);
        due.is("count(9)", x.count(9), 8);
        due.is("count(11)", x.count(11), 0);
    }

    private static void anotherSide(Due due) {
        PointReports x = new PointReports();
        x.feed(208);
        x.feed(130);
        x.feed(2);
        x.feed(8);
        for (int wrong : new int[] {2, -1, Integer.MIN_VALUE, Integer.MAX_VALUE}) {
            due.no("inject(" + wrong + ")", x.inject(wrong));
        }
        due.is("count(4)", x.count(4), 0);
        due.is("count(11)", x.count(11), 4);
        due.yes("inject(0) behind these", x.inject(0));
        due.is("count(8)", x.count(8), 2);
    }

    private static void nothingCollected(Due due) {
        PointReports x = new PointReports();
        due.no("inject(0)", x.inject(0));
        due.no("inject(1)", x.inject(1));
        due.is("count(4)", x.count(4), 2);
        due.no("one byte to the master", Wire.inject(x, 0, 208));
        due.no("one byte to the station", Wire.inject(x, 1, 192));
        due.is("count(4) then", x.count(4), 4);
    }

    /** What segments have brought so far stays as it is. */
    private static void besideTheLine(Due due) {
        PointReports x = new PointReports();
        x.change(9, 5);
        x.poll(1);
        x.bring(0);
        x.bring(0);
        due.yes("REPORT between two segments", Wire.inject(x, 0, 208, 130, 0, 0));
        x.bring(0);
        due.is("view(9, 0)", x.view(9, 0), 5);
    }
}
