/** lose: a frame is lost. */
public final class Promise09Test {
    public static void main(String[] args) {
        Due due = new Due("Promise09Test");
        PointReports x = new PointReports();
        x.poll(2);
        x.poll(4);
        x.poll(8);
        for (int wrong : new int[] {3, -1, Integer.MIN_VALUE, Integer.MAX_VALUE}) {
            due.is("lose(" + wrong + ")", x.lose(wrong), -1);
        }
        due.is("lose(1)", x.lose(1), 2);
        due.is("flying()", x.flying(), 2);
        due.is("SEQ at 0", x.at(0, 11), 192);
        due.is("SEQ at 1", x.at(1, 11), 194);
        due.is("lose(1), the last", x.lose(1), 1);
        due.is("lose(0)", x.lose(0), 0);
        due.is("lose(0), none", x.lose(0), -1);
        due.is("nothing came", x.count(3) + x.count(4), 0);
        x.poll(2);
        due.is("a new frame", x.at(0, 10), 192 + 3);
        due.end();
    }
}
