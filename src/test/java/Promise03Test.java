/** change: a point's value at the time that is, and the event that it makes. */
public final class Promise03Test {
    public static void main(String[] args) {
        Due due = new Due("Promise03Test");
        ordinary(due);
        wrongOnes(due);
        onceATime(due);
        theOldestIsLost(due);
        due.end();
    }

    private static void ordinary(Due due) {
        PointReports x = Wire.threeClasses();
        Wire.ticks(x, 3);
        due.yes("change(0, 65535)", x.change(0, 65535));
        due.yes("change(1, 0), to the same value", x.change(1, 0));
        due.yes("change(9, 258), without a class", x.change(9, 258));
        due.is("event(1, 0, 1)", x.event(1, 0, 1), 65535);
        due.is("event(1, 0, 2)", x.event(1, 0, 2), 3);
        due.is("event(2, 0, 1)", x.event(2, 0, 1), 0);
        x.poll(1);
        x.bring(0);
        int[] response = Wire.fragment(x, 0, 2);
        due.is("point 0 low", response[8], 255);
        due.is("point 0 high", response[9], 255);
        due.is("point 9 low", response[35], 2);
        due.is("point 9 high", response[36], 1);
    }

    private static void wrongOnes(Due due) {
        PointReports x = Wire.threeClasses();
        for (int wrong : new int[] {-1, 10, Integer.MIN_VALUE, Integer.MAX_VALUE}) {
            due.no("change(" + wrong + ", 1)", x.change(wrong, 1));
        }
        for (int wrong : new int[] {-1, 65536, Integer.MIN_VALUE, Integer.MAX_VALUE}) {
            due.no("change(0, " + wrong + ")", x.change(0, wrong));
        }
        due.is("event(1, 0, 0) behind wrong changes", x.event(1, 0, 0), -1);
        due.yes("change(0, 1) behind wrong changes", x.change(0, 1));
    }

    private static void onceATime(Due due) {
        PointReports x = Wire.threeClasses();
        due.yes("change(0, 1) at 0", x.change(0, 1));
        due.no("change(0, 2) at 0 again", x.change(0, 2));
        due.yes("change(5, 1) at 0, without a class", x.change(5, 1));
        due.no("change(5, 2) at 0 again, without a class", x.change(5, 2));
        x.kind(5, 1);
        due.no("change(5, 2) at 0 with a class then", x.change(5, 2));
        due.is("event(1, 1, 0)", x.event(1, 1, 0), -1);
        x.tick();
        due.yes("change(0, 2) at 1", x.change(0, 2));
        due.yes("change(5, 2) at 1", x.change(5, 2));
        due.is("event(1, 0, 1)", x.event(1, 0, 1), 1);
        due.is("event(1, 1, 1)", x.event(1, 1, 1), 2);
        due.is("event(1, 2, 0)", x.event(1, 2, 0), 5);
    }

    private static void theOldestIsLost(Due due) {
        PointReports x = Wire.threeClasses();
        x.kind(3, 1);
        x.change(1, 9);
        Wire.changes(x, 0, 8, 100);
        due.is("count(7) with 8 events", x.count(7), 0);
        due.is("event(1, 0, 1) with 8 events", x.event(1, 0, 1), 100);
        due.yes("change(3, 1)", x.change(3, 1));
        due.is("count(7) with a ninth", x.count(7), 1);
        due.is("event(1, 0, 1) with a ninth", x.event(1, 0, 1), 101);
        due.is("event(1, 7, 0) with a ninth", x.event(1, 7, 0), 3);
        due.is("event(1, 8, 0) with a ninth", x.event(1, 8, 0), -1);
        due.is("event(2, 0, 1), another class", x.event(2, 0, 1), 9);
    }
}
