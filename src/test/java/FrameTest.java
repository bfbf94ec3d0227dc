/** Terms: the check, the frame, and frames that are not so. */
public final class FrameTest {
    public static void main(String[] args) {
        Due due = new Due("FrameTest");
        knownFrames(due);
        lengths(due);
        everyByteCounts(due);
        wrongHeads(due);
        whereItGoes(due);
        due.end();
    }

    private static void knownFrames(Due due) {
        PointReports x = new PointReports();
        x.poll(1);
        due.row("READ", Wire.frame(x, 0),
            5, 100, 11, 196, 2, 0, 1, 0, 131, 36, 192, 192, 1, 60, 1, 6, 255, 80);
        x.bring(0);
        due.row("RESPONSE, first segment", Wire.frame(x, 0),
            5, 100, 26, 68, 1, 0, 2, 0, 59, 50, 64, 192, 129, 0, 0, 30, 2, 10, 0, 0, 0, 1, 0, 0, 2, 0, 99, 178,
            0, 3, 0, 0, 4, 198, 44);
    }

    /** Full segments, one block, and two blocks with little in the second. */
    private static void lengths(Due due) {
        PointReports x = Wire.threeClasses();
        Wire.changes(x, 0, 5, 0);
        Wire.changes(x, 1, 5, 0);
        x.reports(true);
        x.tick();
        due.is("80 bytes are 4 segments", x.flying(), 4);
        for (int i = 0; i < 4; i++) {
            due.is("byte 2 of " + i, x.at(i, 2), 26);
            due.is("segment's first byte of " + i, x.at(i, 10), i + (i == 0 ? 64 : 0) + (i == 3 ? 128 : 0));
            due.is("last byte of " + i, x.at(i, 34) >= 0, true);
            due.is("none behind it of " + i, x.at(i, 35), -1);
        }
        PointReports y = Wire.threeClasses();
        Wire.changes(y, 0, 4, 0);
        y.reports(true);
        y.tick();
        due.is("35 bytes are 2 segments", y.flying(), 2);
        int[] f = Wire.frame(y, 1);
        due.is("16 carried bytes are one block", f.length, 10 + 16 + 2);
        due.row("and its check is right", f, Wire.sealed(f));
        Wire.bringAll(y);
        due.is("16 carried bytes come", y.count(1), 4);
        y.reports(false);
        Wire.changes(y, 0, 2, 40);
        y.reports(true);
        y.tick();
        f = Wire.frame(y, 1);
        due.is("2 carried bytes, with one of the fragment", f.length, 10 + 2 + 2);
        Wire.bringAll(y);
        due.is("2 carried bytes come", y.view(0, 0), 41);
        y.reports(false);
        Wire.changes(y, 0, 7, 50);
        y.reports(true);
        y.tick();
        f = Wire.frame(y, 2);
        due.is("17 carried bytes are two blocks", f.length, 10 + 16 + 2 + 1 + 2);
        due.row("and their checks are right", f, Wire.sealed(f));
        Wire.bringAll(y);
        due.is("17 carried bytes come", y.view(0, 0), 56);
    }

    private static void everyByteCounts(Due due) {
        PointReports x = new PointReports();
        x.poll(1);
        for (int k = 0; k < 18; k++) {
            x.poke(0, k, 1 << k % 8);
            due.is("READ spoilt at " + k, x.twice(0), 1);
            due.is("count(3)", x.count(3), k + 1);
            x.poke(0, k, 1 << k % 8);
        }
        PointReports y = new PointReports();
        y.poll(1);
        y.bring(0);
        y.bring(1);
        for (int k = 0; k < 35; k++) {
            y.poke(0, k, 1 << k % 8);
            y.twice(0);
            due.is("RESPONSE spoilt at " + k, y.count(3), k + 1);
            y.poke(0, k, 1 << k % 8);
        }
        y.bring(0);
        due.is("RESPONSE mended", y.count(3), 35);
    }

    /** With right checks, but not as the side needs it. */
    private static void wrongHeads(Due due) {
        int[][] wrong = {{0, 4}, {1, 101}, {2, 10}, {2, 12}, {2, 5}, {2, 6}, {2, 26}, {2, 255}, {2, 0}, {3, 68}, {3, 197},
            {4, 1}, {4, 3}, {5, 1}, {6, 2}, {6, 0}, {7, 1}};
        for (int[] w : wrong) {
            PointReports x = new PointReports();
            x.poll(1);
            Wire.write(x, 0, Wire.frame(x, 0), w[0], w[1]);
            due.is("READ with byte " + w[0] + " " + w[1], x.bring(0), 0);
            due.is("count(3)", x.count(3), 1);
        }
        int[][] wrongToMaster = {{0, 4}, {1, 101}, {2, 25}, {2, 27}, {3, 196}, {4, 2}, {5, 1}, {6, 1}, {7, 1}};
        for (int[] w : wrongToMaster) {
            PointReports x = new PointReports();
            x.change(9, 5);
            x.poll(1);
            x.bring(0);
            Wire.write(x, 0, Wire.frame(x, 0), w[0], w[1]);
            x.bring(0);
            x.bring(0);
            due.is("RESPONSE with byte " + w[0] + " " + w[1], x.count(3), 1);
            due.is("view(9, 0)", x.view(9, 0), 0);
        }
    }

    /** A frame goes where it was sent, also with the other side's address. */
    private static void whereItGoes(Due due) {
        PointReports x = new PointReports();
        x.poll(1);
        int[] has = Wire.frame(x, 0);
        int[] gets = has.clone();
        gets[3] = 68;
        gets[4] = 1;
        gets[6] = 2;
        Wire.rewrite(x, 0, has, Wire.sealed(gets));
        x.bring(0);
        due.is("dropped as a frame", x.count(3), 1);
        due.is("not as a fragment", x.count(4), 0);
    }
}
