/** Terms: what the station does with fragments. */
public final class StationTest {
    public static void main(String[] args) {
        Due due = new Due("StationTest");
        inTheOrderAsked(due);
        eachOnce(due);
        sixteenAtMost(due);
        lostIsKnownUntilRead(due);
        confirms(due);
        whatWaitedBefore(due);
        dropped(due);
        due.end();
    }

    private static void inTheOrderAsked(Due due) {
        PointReports x = Wire.threeClasses();
        x.tick();
        x.change(0, 10);
        x.change(1, 11);
        x.change(2, 12);
        Wire.inject(x, 1, 199, 1, 60, 4, 6, 60, 2, 6);
        due.row("classes 3 and 1", Wire.fragment(x, 0, x.flying()), 192 + 32 + 7, 129, 4, 0,
            32, 3, 1, 2, 12, 0, 1, 0, 0, 0,
            32, 1, 1, 0, 10, 0, 1, 0, 0, 0);
        due.is("event(2, 0, 3)", x.event(2, 0, 3), 0);
        due.is("event(3, 0, 3)", x.event(3, 0, 3), 1);
        PointReports y = Wire.threeClasses();
        y.change(2, 12);
        Wire.inject(y, 1, 192, 1, 60, 3, 6, 60, 4, 6, 60, 1, 6);
        due.row("class 3, then what is so", Wire.fragment(y, 0, y.flying()), 192 + 32, 129, 0, 0,
            32, 3, 1, 2, 12, 0, 0, 0, 0, 0,
            30, 2, 10, 0, 0, 0, 1, 0, 0, 2, 12, 0, 3, 0, 0, 4, 0, 0, 5, 0, 0, 6, 0, 0, 7, 0, 0, 8, 0, 0, 9, 0, 0);
    }

    private static void eachOnce(Due due) {
        PointReports x = Wire.threeClasses();
        x.change(0, 10);
        due.yes("READ", Wire.inject(x, 1, 192, 1, 60, 2, 6, 60, 2, 6, 60, 2, 6, 60, 2, 6));
        due.row("class 1 once", Wire.part(x, 0), 224, 129, 0, 0, 32, 1, 1, 0, 10, 0, 0, 0, 0, 0);
        x.lose(0);
        due.yes("READ of what is so", Wire.inject(x, 1, 192, 1, 60, 1, 6, 60, 3, 6, 60, 1, 6));
        due.is("what is so once", Wire.fragment(x, 0, x.flying()).length, 37);
        x.lose(0);
        x.lose(0);
        due.yes("READ of no events", Wire.inject(x, 1, 207, 1, 60, 3, 6));
        due.row("nothing, without CON", Wire.part(x, 0), 207, 129, 2, 0);
    }

    private static void sixteenAtMost(Due due) {
        PointReports x = Wire.eightOfEach();
        Wire.inject(x, 1, 192, 1, 60, 4, 6, 60, 3, 6, 60, 2, 6, 60, 1, 6);
        int[] response = Wire.fragment(x, 0, x.flying());
        due.is("length", response.length, 4 + 2 * (3 + 8 * 7) + 33);
        due.is("class 1 is left", response[2], 2);
        due.is("first group's class", response[5], 3);
        due.is("second group's class", response[5 + 3 + 56], 2);
        due.is("then what is so", response[4 + 2 * 59], 30);
        due.is("event(1, 0, 3)", x.event(1, 0, 3), 0);
        due.is("event(2, 7, 3)", x.event(2, 7, 3), 1);
        PointReports y = Wire.threeClasses();
        Wire.changes(y, 0, 1, 0);
        Wire.changes(y, 1, 1, 0);
        Wire.changes(y, 2, 1, 0);
        Wire.inject(y, 1, 192, 1, 60, 1, 6);
        due.is("all are left", y.at(0, 13), 14);
    }

    private static void lostIsKnownUntilRead(Due due) {
        PointReports x = Wire.threeClasses();
        Wire.changes(x, 0, 9, 0);
        int[] asked = {2, 3, 1, 1};
        int[] lost = {8, 8, 8, 0};
        for (int n = 0; n < asked.length; n++) {
            Wire.inject(x, 1, 192, 1, 60, asked[n], 6);
            due.is("lost, reading " + asked[n], x.at(0, 14), lost[n]);
            for (int k = x.flying(); k > 0; k--) {
                x.lose(0);
            }
        }
        due.is("lost in all", x.count(7), 1);
        Wire.changes(x, 0, 1, 0);
        x.reports(true);
        x.tick();
        due.is("lost anew, in a report", x.at(0, 14), 8);
        due.is("lost in all then", x.count(7), 2);
    }

    private static void confirms(Due due) {
        PointReports x = Wire.threeClasses();
        due.yes("CONFIRM with nothing that waits", Wire.inject(x, 1, 192, 0));
        x.change(0, 1);
        Wire.inject(x, 1, 195, 1, 60, 2, 6);
        due.yes("CONFIRM with another SEQ", Wire.inject(x, 1, 194, 0));
        due.yes("CONFIRM with UNS", Wire.inject(x, 1, 195 + 16, 0));
        due.is("count(10)", x.count(10), 1);
        due.is("event(1, 0, 3)", x.event(1, 0, 3), 1);
        due.yes("CONFIRM", Wire.inject(x, 1, 195, 0));
        due.is("count(10) then", x.count(10), 0);
        due.is("event(1, 0, 0) then", x.event(1, 0, 0), -1);
        x.change(1, 1);
        x.reports(true);
        x.tick();
        due.yes("CONFIRM without UNS", Wire.inject(x, 1, 192, 0));
        due.yes("CONFIRM with UNS, another SEQ", Wire.inject(x, 1, 209, 0));
        due.is("count(10) with a report", x.count(10), 1);
        due.yes("CONFIRM of the report", Wire.inject(x, 1, 208, 0));
        due.is("event(2, 0, 0) then", x.event(2, 0, 0), -1);
        due.is("count(4)", x.count(4), 0);
    }

    private static void whatWaitedBefore(Due due) {
        PointReports x = Wire.threeClasses();
        x.change(0, 1);
        x.change(1, 2);
        Wire.inject(x, 1, 192, 1, 60, 2, 6);
        Wire.inject(x, 1, 193, 1, 60, 3, 6);
        due.is("event(1, 0, 3)", x.event(1, 0, 3), 0);
        due.is("event(2, 0, 3)", x.event(2, 0, 3), 1);
        due.yes("CONFIRM of the first", Wire.inject(x, 1, 192, 0));
        due.is("event(1, 0, 0)", x.event(1, 0, 0), 0);
        due.is("event(2, 0, 0)", x.event(2, 0, 0), 1);
        x.reports(true);
        x.tick();
        due.is("a report takes both", x.event(1, 0, 3) + x.event(2, 0, 3), 2);
        Wire.inject(x, 1, 194, 1, 60, 1, 6);
        due.is("a READ ends the report's waiting", x.count(10), 0);
        due.yes("CONFIRM of the report", Wire.inject(x, 1, 208, 0));
        due.is("event(1, 0, 0) then", x.event(1, 0, 0), 0);
        x.tick();
        due.is("a new report", x.count(6), 2);
    }

    private static void dropped(Due due) {
        int[][] wrong = {{}, {192}, {192, 1}, {192, 2}, {192, 129}, {192, 130}, {192, 255}, {192, 0, 0},
            {192, 1, 60}, {192, 1, 60, 1}, {192, 1, 60, 1, 6, 0}, {192, 1, 60, 1, 6, 60, 2},
            {192, 1, 60, 0, 6}, {192, 1, 60, 5, 6}, {192, 1, 61, 1, 6}, {192, 1, 60, 1, 5}, {192, 1, 60, 255, 6},
            {192, 1, 60, 1, 6, 60, 5, 6}, {192, 1, 60, 1, 6, 59, 1, 6}, {192, 1, 60, 1, 6, 60, 1, 7},
            {192, 1, 60, 1, 6, 60, 2, 6, 60, 3, 6, 60, 4, 6, 60, 1, 6},
            {224, 1, 60, 1, 6}, {208, 1, 60, 1, 6}, {240, 1, 60, 1, 6}, {128, 1, 60, 1, 6}, {64, 1, 60, 1, 6},
            {0, 1, 60, 1, 6}, {224, 0}, {240, 0}, {128, 0}, {64, 0}, {16, 0}};
        PointReports x = Wire.threeClasses();
        x.change(0, 1);
        Wire.inject(x, 1, 192, 1, 60, 2, 6);
        for (int n = 0; n < wrong.length; n++) {
            due.no("wrong fragment " + n, Wire.inject(x, 1, wrong[n]));
            due.is("count(4) behind " + n, x.count(4), n + 1);
        }
        due.is("flying()", x.flying(), 1);
        due.is("what waits still waits", x.event(1, 0, 3), 1);
    }
}
