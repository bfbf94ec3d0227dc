/** bring: a frame comes to where it goes. */
public final class Promise07Test {
    public static void main(String[] args) {
        Due due = new Due("Promise07Test");
        wholeWay(due);
        anyFrame(due);
        withAFullLine(due);
        due.end();
    }

    private static void wholeWay(Due due) {
        PointReports x = Wire.threeClasses();
        x.change(0, 300);
        x.poll(3);
        due.is("the READ comes", x.bring(0), 3);
        due.is("first segment", x.bring(0), 2);
        due.is("second segment", x.bring(0), 1);
        due.is("last segment, the CONFIRM leaves", x.bring(0), 1);
        due.is("view(0, 0)", x.view(0, 0), 300);
        due.is("the CONFIRM comes", x.bring(0), 0);
        due.is("event(1, 0, 0)", x.event(1, 0, 0), -1);
        for (int wrong : new int[] {0, 1, -1, Integer.MIN_VALUE, Integer.MAX_VALUE}) {
            due.is("bring(" + wrong + ")", x.bring(wrong), -1);
        }
    }

    private static void anyFrame(Due due) {
        PointReports x = new PointReports();
        x.poll(2);
        x.poll(4);
        x.poll(8);
        due.is("bring(3)", x.bring(3), -1);
        due.is("bring(1), its response is the last", x.bring(1), 3);
        due.is("SEQ at 0", x.at(0, 11), 192);
        due.is("SEQ at 1", x.at(1, 11), 194);
        due.is("SEQ at 2", x.at(2, 11), 193);
        due.is("function at 2", x.at(2, 12), 129);
        due.is("the old response is dropped", x.bring(2), 2);
        due.is("count(4)", x.count(4), 1);
        due.is("bring(1)", x.bring(1), 2);
        due.is("bring(1), the response of the last reading", x.bring(1), 1);
        due.is("count(4) then", x.count(4), 1);
    }

    private static void withAFullLine(Due due) {
        PointReports x = new PointReports();
        for (int n = 0; n < 40; n++) {
            x.poll(2);
        }
        due.is("bring(39)", x.bring(39), 40);
        due.is("the oldest is still there", x.at(0, 10), 192);
        due.is("the response is the last", x.at(39, 12), 129);
        x.lose(39);
        x.poll(1);
        due.is("bring(39), two frames for one", x.bring(39), 40);
        due.is("the oldest is lost", x.at(0, 10), 193);
    }
}
