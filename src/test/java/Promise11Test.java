/** at: the bytes of frames in flight. */
public final class Promise11Test {
    public static void main(String[] args) {
        Due due = new Due("Promise11Test");
        PointReports x = new PointReports();
        due.is("at(0, 0), nothing in flight", x.at(0, 0), -1);
        x.poll(15);
        x.poll(2);
        due.row("READ of all", Wire.frame(x, 0), 5, 100, 20, 196, 2, 0, 1, 0, checkLow(x, 0, 0, 8), checkHigh(x, 0, 0, 8),
            192, 192, 1, 60, 1, 6, 60, 2, 6, 60, 3, 6, 60, 4, 6, checkLow(x, 0, 10, 15), checkHigh(x, 0, 10, 15));
        due.is("at(1, 11)", x.at(1, 11), 193);
        for (int wrong : new int[] {2, -1, Integer.MIN_VALUE, Integer.MAX_VALUE}) {
            due.is("at(" + wrong + ", 0)", x.at(wrong, 0), -1);
        }
        for (int wrong : new int[] {27, -1, Integer.MIN_VALUE, Integer.MAX_VALUE}) {
            due.is("at(0, " + wrong + ")", x.at(0, wrong), -1);
        }
        due.is("at(1, 18), a shorter frame", x.at(1, 18), -1);
        x.lose(0);
        x.lose(0);
        due.is("at(0, 0), nothing any more", x.at(0, 0), -1);
        due.end();
    }

    private static int checkLow(PointReports x, int i, int from, int many) {
        return Wire.check(Wire.frame(x, i), from, many) & 255;
    }

    private static int checkHigh(PointReports x, int i, int from, int many) {
        return Wire.check(Wire.frame(x, i), from, many) >> 8;
    }
}
