/** The edges that the document's words on frames and segments name. */
public final class BoundaryFrameTest {
    public static void main(String[] args) {
        Due due = new Due("BoundaryFrameTest");
        lowestByteFirst(due);
        fiveMoreThanItCarries(due);
        bySixteen(due);
        oneToTwenty(due);
        allButTheLastHaveTwenty(due);
        mastersNumbersModulo64(due);
        stationsNumbersModulo64(due);
        eachSideCountsItsOwn(due);
        due.end();
    }

    /** A report of so many events of class 1 is 7 + 7 * events bytes long. */
    private static PointReports reported(int events) {
        PointReports x = Wire.threeClasses();
        Wire.changes(x, 0, events, 0);
        x.reports(true);
        x.tick();
        return x;
    }

    private static void lowestByteFirst(Due due) {
        due.says("NUMBERS of several bytes have the lowest byte first");
        int[][] values = {{0, 0, 0}, {255, 255, 0}, {256, 0, 1}, {65535, 255, 255}};
        for (int[] v : values) {
            PointReports x = new PointReports();
            x.change(0, v[0]);
            x.poll(1);
            x.bring(0);
            int[] part = Wire.part(x, 0);
            due.is("low byte of " + v[0], part[8], v[1]);
            due.is("high byte of " + v[0], part[9], v[2]);
            Wire.bringAll(x);
            due.is("view(0, 0)", x.view(0, 0), v[0]);
        }
        for (int time = 255; time <= 256; time++) {
            PointReports x = Wire.threeClasses();
            Wire.ticks(x, time);
            x.change(0, 1);
            x.poll(2);
            x.bring(0);
            int[] part = Wire.part(x, 0);
            due.is("low byte of the time " + time, part[10], time % 256);
            due.is("second byte of the time " + time, part[11], time / 256);
            due.is("third byte of the time " + time, part[12], 0);
            due.is("fourth byte of the time " + time, part[13], 0);
            x.bring(0);
            due.is("taken(0, 2)", x.taken(0, 2), time);
        }
    }

    private static void fiveMoreThanItCarries(Due due) {
        due.says("5 more than how many bytes it carries");
        PointReports x = reported(2);
        due.is("byte 2, 21 carried", x.at(0, 2), 26);
        due.is("the last byte, 21 carried", x.at(0, 34) != -1, true);
        due.is("none behind it", x.at(0, 35), -1);
        due.is("byte 2, 2 carried", x.at(1, 2), 7);
        due.is("the last byte, 2 carried", x.at(1, 13) != -1, true);
        due.is("none behind it", x.at(1, 14), -1);
    }

    private static void bySixteen(Due due) {
        due.says("what it carries, by 16 bytes (the last ones what is left), behind each the check of them");
        // 1, 4 and 7 events leave 14, 15 and 16 bytes of the fragment for the last segment.
        int[] events = {1, 4, 7};
        int[] carried = {15, 16, 17};
        int[] checks = {1, 1, 2};
        for (int n = 0; n < 3; n++) {
            PointReports x = reported(events[n]);
            int[] f = Wire.frame(x, x.flying() - 1);
            due.is("byte 2", f[2], 5 + carried[n]);
            due.is("length with " + carried[n], f.length, 10 + carried[n] + 2 * checks[n]);
            due.row("checks with " + carried[n], f, Wire.sealed(f));
            Wire.bringAll(x);
            due.is("events taken with " + carried[n], x.count(1), events[n]);
        }
    }

    private static void oneToTwenty(Due due) {
        due.says("1 to 20 bytes of a FRAGMENT");
        PointReports x = Wire.threeClasses();
        Wire.changes(x, 0, 5, 0);
        Wire.changes(x, 1, 5, 0);
        x.reports(true);
        x.tick();
        due.is("80 bytes are 4 segments, and no empty one", x.flying(), 4);
        due.is("the last one has 20", Wire.part(x, 3).length, 20);
        due.is("and is the last", x.at(3, 10), 128 + 3);
        PointReports y = reported(2);
        due.is("21 bytes are 2 segments", y.flying(), 2);
        due.is("the last one has 1", Wire.part(y, 1).length, 1);
        PointReports z = reported(1);
        due.is("14 bytes are one segment", z.flying(), 1);
        due.is("first and last", z.at(0, 10), 128 + 64);
    }

    private static void allButTheLastHaveTwenty(Due due) {
        due.says("all but the last have 20");
        PointReports x = Wire.eightOfEach();
        x.poll(15);
        x.bring(0);
        due.is("155 bytes are 8 segments", x.flying(), 8);
        for (int i = 0; i < 8; i++) {
            due.is("bytes in segment " + i, x.at(i, 2) - 6, i == 7 ? 15 : 20);
            due.is("first byte of segment " + i, x.at(i, 10), i + (i == 0 ? 64 : 0) + (i == 7 ? 128 : 0));
        }
    }

    private static void mastersNumbersModulo64(Due due) {
        due.says("its number (modulo 64; each side counts its own, from 0 on)");
        PointReports x = new PointReports();
        for (int n = 0; n <= 65; n++) {
            x.poll(2);
            if (n < 2 || n > 61) {
                due.is("the master's segment " + n, x.at(0, 10), 192 + n % 64);
            }
            x.lose(0);
        }
    }

    private static void stationsNumbersModulo64(Due due) {
        due.says("its number (modulo 64; each side counts its own, from 0 on)");
        PointReports x = new PointReports();
        for (int n = 0; n < 32; n++) {
            Wire.inject(x, 1, 192, 1, 60, 1, 6);
            if (n == 0 || n == 31) {
                due.is("the station's segment " + 2 * n, x.at(0, 10), 64 + 2 * n);
                due.is("the station's segment " + (2 * n + 1), x.at(1, 10), 128 + 2 * n + 1);
            }
            x.lose(0);
            x.lose(0);
        }
        Wire.inject(x, 1, 192, 1, 60, 1, 6);
        due.is("the station's segment 64", x.at(0, 10), 64);
        due.is("the station's segment 65", x.at(1, 10), 128 + 1);
    }

    private static void eachSideCountsItsOwn(Due due) {
        due.says("each side counts its own, from 0 on");
        PointReports x = new PointReports();
        for (int n = 0; n < 3; n++) {
            x.poll(2);
        }
        x.bring(2);
        due.is("the station's first", x.at(2, 10), 192);
        x.poll(2);
        due.is("the master's fourth", x.at(3, 10), 192 + 3);
    }
}
