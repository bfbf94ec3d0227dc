/** poke: a byte of a frame in flight is changed. */
public final class Promise10Test {
    public static void main(String[] args) {
        Due due = new Due("Promise10Test");
        PointReports x = new PointReports();
        x.poll(1);
        x.poll(2);
        due.yes("poke(1, 0, 255)", x.poke(1, 0, 255));
        due.is("at(1, 0)", x.at(1, 0), 250);
        due.is("at(0, 0)", x.at(0, 0), 5);
        due.yes("poke(1, 0, 1)", x.poke(1, 0, 1));
        due.is("at(1, 0) then", x.at(1, 0), 251);
        int last = Wire.frame(x, 0).length - 1;
        int before = x.at(0, last);
        due.yes("poke(0, last, 128)", x.poke(0, last, 128));
        due.is("at(0, last)", x.at(0, last), before ^ 128);
        wrongOnes(due, x, last);
        dueBack(due);
        due.end();
    }

    private static void wrongOnes(Due due, PointReports x, int last) {
        int[] before = Wire.frame(x, 0);
        for (int wrong : new int[] {2, -1, Integer.MIN_VALUE, Integer.MAX_VALUE}) {
            due.no("poke(" + wrong + ", 0, 1)", x.poke(wrong, 0, 1));
        }
        for (int wrong : new int[] {last + 1, -1, Integer.MIN_VALUE, Integer.MAX_VALUE}) {
            due.no("poke(0, " + wrong + ", 1)", x.poke(0, wrong, 1));
        }
        for (int wrong : new int[] {0, 256, -1, 257, Integer.MIN_VALUE, Integer.MAX_VALUE}) {
            due.no("poke(0, 0, " + wrong + ")", x.poke(0, 0, wrong));
        }
        due.row("wrong pokes change nothing", Wire.frame(x, 0), before);
    }

    private static void dueBack(Due due) {
        PointReports x = new PointReports();
        x.poll(2);
        x.poke(0, 13, 7);
        x.twice(0);
        due.is("dropped while spoilt", x.count(3), 1);
        x.poke(0, 13, 7);
        due.is("not when mended", x.bring(0), 1);
        due.is("count(3)", x.count(3), 1);
    }
}
