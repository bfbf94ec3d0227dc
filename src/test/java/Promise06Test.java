/** poll: the master reads. */
public final class Promise06Test {
    public static void main(String[] args) {
        Due due = new Due("Promise06Test");
        sums(due);
        wrongOnes(due);
        numbers(due);
        due.end();
    }

    private static void sums(Due due) {
        for (int what = 1; what <= 15; what++) {
            PointReports x = new PointReports();
            due.is("poll(" + what + ")", x.poll(what), 0);
            due.is("flying()", x.flying(), 1);
            int[] want = new int[2 + 3 * Integer.bitCount(what)];
            want[0] = 192;
            want[1] = 1;
            int k = 2;
            for (int v = 1; v <= 4; v++) {
                if ((what >> (v - 1) & 1) == 1) {
                    want[k] = 60;
                    want[k + 1] = v;
                    want[k + 2] = 6;
                    k += 3;
                }
            }
            due.row("READ " + what, Wire.part(x, 0), want);
        }
    }

    private static void wrongOnes(Due due) {
        PointReports x = new PointReports();
        for (int wrong : new int[] {0, 16, 17, -1, 31, Integer.MIN_VALUE, Integer.MAX_VALUE}) {
            due.is("poll(" + wrong + ")", x.poll(wrong), -1);
        }
        due.is("flying()", x.flying(), 0);
        due.is("count(5)", x.count(5), 0);
    }

    private static void numbers(Due due) {
        PointReports x = new PointReports();
        for (int n = 0; n < 70; n++) {
            due.is("poll(1) " + n, x.poll(1), n % 16);
            int last = Math.min(n, 39);
            due.is("segment's first byte " + n, x.at(last, 10), 192 + n % 64);
            due.is("SEQ " + n, x.at(last, 11), 192 + n % 16);
        }
        due.is("count(5)", x.count(5), 70);
    }
}
