/** Terms: the receiver puts segments together, or drops them. */
public final class ReceiverTest {
    public static void main(String[] args) {
        Due due = new Due("ReceiverTest");
        inOrder(due);
        outOfOrder(due);
        oneIsMissing(due);
        aFirstOneBeginsAnew(due);
        numbersGoRound(due);
        aSpoiltOneChangesNothing(due);
        sidesAreApart(due);
        shortOnesJoin(due);
        atMost400(due);
        not401(due);
        due.end();
    }

    /** A response in three segments, of which none has come: point 0 is 7, with an event. */
    private static PointReports inThree() {
        PointReports x = Wire.threeClasses();
        x.change(0, 7);
        x.poll(3);
        x.bring(0);
        return x;
    }

    private static void inOrder(Due due) {
        PointReports x = inThree();
        due.is("flying()", x.flying(), 3);
        due.is("bring(0)", x.bring(0), 2);
        due.is("bring(0)", x.bring(0), 1);
        due.is("view(0, 0) before the last one", x.view(0, 0), 0);
        due.is("bring(0), CONFIRM leaves", x.bring(0), 1);
        due.is("view(0, 0)", x.view(0, 0), 7);
    }

    private static void outOfOrder(Due due) {
        int[][] orders = {{0, 1, 0}, {1, 0, 0}, {1, 1, 0}, {2, 0, 0}, {2, 1, 0}};
        for (int[] order : orders) {
            PointReports x = inThree();
            for (int i : order) {
                x.bring(i);
            }
            String by = "by " + order[0] + order[1] + order[2];
            due.is("flying() " + by, x.flying(), 0);
            due.is("view(0, 0) " + by, x.view(0, 0), 0);
            due.is("count(3) " + by, x.count(3), 0);
            due.is("count(4) " + by, x.count(4), 0);
        }
    }

    private static void oneIsMissing(Due due) {
        for (int missing = 0; missing < 3; missing++) {
            PointReports x = inThree();
            x.lose(missing);
            x.bring(0);
            x.bring(0);
            due.is("view(0, 0) without " + missing, x.view(0, 0), 0);
            due.is("count(3) without " + missing, x.count(3), 0);
            due.is("count(4) without " + missing, x.count(4), 0);
        }
        // A second one that comes twice does not follow itself, and what was there is dropped.
        PointReports x = inThree();
        x.bring(0);
        x.twice(0);
        x.twice(0);
        x.bring(0);
        x.bring(0);
        due.is("view(0, 0), the second one twice", x.view(0, 0), 0);
        due.is("count(4), the second one twice", x.count(4), 0);
    }

    private static void aFirstOneBeginsAnew(Due due) {
        PointReports x = inThree();
        x.twice(0);
        x.twice(1);
        x.twice(0);
        x.twice(1);
        x.bring(2);
        due.is("view(0, 0)", x.view(0, 0), 7);
        due.is("count(1)", x.count(1), 1);
        // Behind the last one nothing is open, though the number would follow.
        PointReports y = inThree();
        y.poll(1);
        y.bring(3);
        for (int n = 0; n < 3; n++) {
            y.bring(0);
        }
        y.bring(1);
        due.is("view(0, 0), a later second segment alone", y.view(0, 0), 0);
        due.is("count(4), the older response alone", y.count(4), 1);
    }

    /** The station's numbers pass 63 in the middle of a fragment. */
    private static void numbersGoRound(Due due) {
        PointReports x = new PointReports();
        for (int n = 0; n < 64; n++) {
            x.change(9, n + 1);
            x.poll(n % 2 == 0 ? 1 : 2);
            Wire.bringAll(x);
            x.tick();
            due.is("view(9, 0) " + n, x.view(9, 0), n / 2 * 2 + 1);
        }
    }

    private static void aSpoiltOneChangesNothing(Due due) {
        PointReports x = inThree();
        x.bring(0);
        x.poke(0, 15, 1);
        x.twice(0);
        x.poke(0, 15, 1);
        x.bring(0);
        x.bring(0);
        due.is("view(0, 0)", x.view(0, 0), 7);
        due.is("count(3)", x.count(3), 1);
    }

    private static void sidesAreApart(Due due) {
        PointReports x = inThree();
        x.poll(1);
        x.bring(0);
        x.bring(2);
        x.bring(0);
        x.bring(0);
        due.is("the old response is whole, and dropped", x.count(4), 1);
        due.is("flying()", x.flying(), 2);
    }

    /** The document asks for 20 bytes in all but the last, but not of the receiver. */
    private static void shortOnesJoin(Due due) {
        PointReports x = Wire.threeClasses();
        x.change(0, 7);
        x.reports(true);
        x.tick();
        int[] whole = Wire.frame(x, 0);
        int[] begun = Wire.write(x, 0, whole, 10, 64 + 9);
        x.twice(0);
        due.is("nothing is there yet", x.count(1), 0);
        Wire.write(x, 0, begun, 10, 128 + 10);
        x.bring(0);
        due.is("count(3)", x.count(3), 0);
        due.is("both are there, as one that is too long", x.count(4), 1);
    }

    private static void atMost400(Due due) {
        for (int extra = 0; extra <= 1; extra++) {
            PointReports x = inThree();
            x.bring(0);
            x.lose(1);
            int[] f = Wire.frame(x, 0);
            for (int n = 1; n < 19 + extra; n++) {
                f = Wire.write(x, 0, f, 10, n);
                x.twice(0);
            }
            f = Wire.write(x, 0, f, 10, 128 + 19 + extra);
            x.twice(0);
            due.is("a fragment is there, with " + (400 + 20 * extra), x.count(4), 1 - extra);
            due.is("count(3)", x.count(3), 0);
            Wire.write(x, 0, f, 10, 128 + 20 + extra);
            x.twice(0);
            due.is("nothing is open behind it", x.count(4), 1 - extra);
        }
    }

    /** 19 segments of 20 bytes, then some of 7. */
    private static void not401(Due due) {
        PointReports x = inThree();
        x.bring(0);
        int[] f = Wire.frame(x, 0);
        for (int n = 1; n < 19; n++) {
            f = Wire.write(x, 0, f, 10, n);
            x.twice(0);
        }
        f = Wire.frame(x, 1);
        for (int n = 19; n < 21; n++) {
            f = Wire.write(x, 1, f, 10, n);
            x.twice(1);
        }
        Wire.write(x, 1, f, 10, 128 + 21);
        x.twice(1);
        due.is("no fragment of 401", x.count(4), 0);
        due.is("count(3)", x.count(3), 0);
    }
}
