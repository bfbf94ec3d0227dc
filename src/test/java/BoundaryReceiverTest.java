/** The edges that the document's words on the receiver name. */
public final class BoundaryReceiverTest {
    public static void main(String[] args) {
        Due due = new Due("BoundaryReceiverTest");
        length(due);
        headBytes(due);
        checks(due);
        nothingBehindTheFirstByte(due);
        moreThanTwenty(due);
        beginsAnew(due);
        unlessThereWasOneBefore(due);
        notTheLast(due);
        allWithIt(due);
        theNumberBeforeAtTheMaster(due);
        theNumberBeforeAtTheStation(due);
        fourHundred(due);
        fourHundredAndOne(due);
        fourHundredAndOneThatIsNotTheLast(due);
        aFirstOneBehindFourHundred(due);
        withTheLastOne(due);
        due.end();
    }

    /** A report of 21 bytes with two events: frame 0 has 20 of them, frame 1 the last one. */
    private static PointReports twoSegments() {
        PointReports x = Wire.threeClasses();
        Wire.changes(x, 0, 2, 70);
        x.reports(true);
        x.tick();
        return x;
    }

    private static void came(Due due, String how, PointReports x, int events, int frames) {
        due.is("count(1) " + how, x.count(1), events);
        due.is("count(3) " + how, x.count(3), frames);
        due.is("count(4) " + how, x.count(4), 0);
    }

    private static void length(Due due) {
        due.says("THE RECEIVER drops a frame that is not so (length,");
        for (int says = 25; says <= 27; says++) {
            PointReports x = twoSegments();
            new Forged(x, 0).with(2, says).comes();
            x.bring(1);
            came(due, "with byte 2 " + says + " for 26", x, says == 26 ? 2 : 0, says == 26 ? 0 : 1);
        }
        for (int says = 10; says <= 12; says++) {
            PointReports x = new PointReports();
            x.poll(1);
            new Forged(x, 0).with(2, says).comes();
            due.is("count(3) with byte 2 " + says + " for 11", x.count(3), says == 11 ? 0 : 1);
            due.is("flying() with byte 2 " + says, x.flying(), says == 11 ? 3 : 1);
        }
        for (int says : new int[] {0, 4, 5, 255}) {
            PointReports x = new PointReports();
            x.poll(1);
            new Forged(x, 0).with(2, says).comes();
            due.is("count(3) with byte 2 " + says, x.count(3), 1);
        }
    }

    private static void headBytes(Due due) {
        due.says("bytes 0 to 7 as its side needs them");
        int[] atTheStation = {5, 100, 11, 196, 2, 0, 1, 0};
        int[] atTheMaster = {5, 100, 26, 68, 1, 0, 2, 0};
        for (int k = 0; k < 8; k++) {
            for (int more = -1; more <= 1; more++) {
                PointReports x = new PointReports();
                x.poll(1);
                new Forged(x, 0).with(k, atTheStation[k] + more & 255).comes();
                due.is("count(3) at the station, byte " + k + " and " + more, x.count(3), more == 0 ? 0 : 1);
                PointReports y = twoSegments();
                new Forged(y, 0).with(k, atTheMaster[k] + more & 255).comes();
                due.is("count(3) at the master, byte " + k + " and " + more, y.count(3), more == 0 ? 0 : 1);
            }
        }
    }

    private static void checks(Due due) {
        due.says("checks), or");
        // The head's check, that of the first 16 bytes, and that of the last 5.
        for (int k : new int[] {8, 9, 26, 27, 33, 34}) {
            for (int mask : new int[] {1, 128}) {
                PointReports x = twoSegments();
                x.poke(0, k, mask);
                x.bring(0);
                x.bring(0);
                came(due, "with byte " + k + " spoilt by " + mask, x, 0, 1);
            }
        }
    }

    private static void nothingBehindTheFirstByte(Due due) {
        due.says("or carries nothing behind the segment's first byte");
        PointReports x = twoSegments();
        x.bring(0);
        x.bring(0);
        came(due, "with one byte behind it", x, 2, 0);
        PointReports y = twoSegments();
        y.bring(0);
        new Forged(y, 0).with(2, 6).comes();
        came(due, "with none behind it", y, 0, 1);
    }

    private static void moreThanTwenty(Due due) {
        due.says("or more than 20");
        PointReports x = Wire.threeClasses();
        Wire.changes(x, 0, 5, 0);
        Wire.changes(x, 1, 5, 0);
        x.reports(true);
        x.tick();
        for (int n = 0; n < 4; n++) {
            x.bring(0);
        }
        came(due, "with 20 in each, the last too", x, 10, 0);
        PointReports y = twoSegments();
        new Forged(y, 0).with(2, 27).comes();
        y.bring(1);
        came(due, "with 21", y, 0, 1);
    }

    private static void beginsAnew(Due due) {
        due.says("A first segment begins anew");
        PointReports x = twoSegments();
        Forged first = new Forged(x, 0);
        first.comes(64 + 9);
        first.comes(64 + 5);
        new Forged(x, 1).comes(128 + 6);
        came(due, "behind another first one", x, 2, 0);
    }

    private static void unlessThereWasOneBefore(Due due) {
        due.says("another one is dropped, and all with it, unless there was one before");
        for (int number : new int[] {0, 1, 63}) {
            PointReports x = twoSegments();
            new Forged(x, 1).comes(128 + number);
            came(due, "the last one alone, with " + number, x, 0, 0);
            PointReports y = twoSegments();
            new Forged(y, 0).comes(number);
            new Forged(y, 1).comes(128 + (number + 1) % 64);
            came(due, "without a first one, from " + number, y, 0, 0);
        }
        PointReports z = twoSegments();
        z.bring(0);
        z.bring(0);
        came(due, "with one before", z, 2, 0);
    }

    private static void notTheLast(Due due) {
        due.says("not the last");
        PointReports x = twoSegments();
        Forged first = new Forged(x, 0);
        Forged second = new Forged(x, 1);
        first.comes(64 + 3);
        second.comes(128 + 4);
        due.is("count(1)", x.count(1), 2);
        second.comes(128 + 5);
        came(due, "behind the last one", x, 2, 0);
        due.is("count(2) behind the last one", x.count(2), 0);
        // One that is first and last is a fragment by itself; nothing follows it.
        first.comes(128 + 64 + 7);
        due.is("count(4), 20 bytes alone", x.count(4), 1);
        second.comes(128 + 8);
        due.is("count(4) behind it", x.count(4), 1);
        due.is("count(2) behind it", x.count(2), 0);
    }

    private static void allWithIt(Due due) {
        due.says("another one is dropped, and all with it");
        PointReports x = twoSegments();
        Forged second = new Forged(x, 1);
        x.twice(0);
        second.comes(128 + 2);
        second.comes(128 + 1);
        came(due, "the right one behind a wrong one", x, 0, 0);
        x.twice(0);
        second.comes();
        came(due, "behind a first one", x, 2, 0);
    }

    private static void theNumberBeforeAtTheMaster(Due due) {
        due.says("with the number before (modulo 64)");
        int[][] pairs = {{0, 1, 1}, {62, 63, 1}, {63, 0, 1}, {0, 0, 0}, {0, 2, 0}, {0, 63, 0}, {1, 0, 0},
            {62, 0, 0}, {62, 62, 0}, {63, 63, 0}, {63, 1, 0}, {63, 62, 0}, {31, 32, 1}, {32, 0, 0}};
        for (int[] p : pairs) {
            PointReports x = twoSegments();
            new Forged(x, 0).comes(64 + p[0]);
            new Forged(x, 1).comes(128 + p[1]);
            came(due, "with " + p[1] + " behind " + p[0], x, 2 * p[2], 0);
        }
    }

    /** A READ of classes 1 and 2, cut by twos, in the frames of confirmations. */
    private static void theNumberBeforeAtTheStation(Due due) {
        due.says("with the number before (modulo 64)");
        int[][] numbers = {{61, 62, 63, 0}, {62, 63, 0, 1}, {63, 0, 1, 2}, {62, 63, 63, 0}, {62, 63, 1, 2}, {61, 62, 0, 1}};
        for (int n = 0; n < numbers.length; n++) {
            PointReports x = new PointReports();
            Wire.inject(x, 0, 240, 130, 0, 0);
            Forged f = new Forged(x, 0);
            f.part(192, 1).comes(64 + numbers[n][0]);
            f.part(60, 2).comes(numbers[n][1]);
            f.part(6, 60).comes(numbers[n][2]);
            f.part(3, 6).comes(128 + numbers[n][3]);
            due.is("flying() with numbers " + n, x.flying(), n < 3 ? 2 : 1);
            due.is("count(3)", x.count(3), 0);
            due.is("count(4)", x.count(4), 0);
        }
    }

    /** Brings so many segments of 20 bytes, from a first one on; they tell that point 0 is 0. */
    private static void bringTwenties(Forged f, int many, int... begin) {
        f.part(new int[20]).part(begin).comes(64);
        f.part(new int[20]);
        for (int n = 1; n < many; n++) {
            f.comes(n);
        }
    }

    private static void fourHundred(Due due) {
        due.says("so is one with which there would be more than 400 bytes");
        PointReports x = twoSegments();
        Forged f = new Forged(x, 0);
        // 131 points of 3 bytes behind 7 bytes are 400.
        bringTwenties(f, 19, 208, 130, 2, 8, 30, 2, 131);
        due.is("view(9, 0) before", x.view(9, 0), 0);
        f.part(0, 0, 0, 0, 0, 0, 0, 0, 0, 0, 0, 0, 0, 0, 0, 0, 0, 9, 7, 1).comes(128 + 19);
        due.is("view(9, 0), 400 bytes", x.view(9, 0), 263);
        due.is("count(8), 400 bytes", x.count(8), 2);
        due.is("count(3)", x.count(3), 0);
        due.is("count(4)", x.count(4), 0);
    }

    private static void fourHundredAndOne(Due due) {
        due.says("so is one with which there would be more than 400 bytes");
        PointReports x = twoSegments();
        Forged one = new Forged(x, 1);
        // An event's 10 bytes and 128 points of 3 bytes, behind 4 and 3 bytes, are 401.
        bringTwenties(new Forged(x, 0), 20, 208, 130, 2, 8, 32, 1, 1, 4, 9, 0, 5, 0, 0, 0, 30, 2, 128);
        one.part(0).comes(128 + 20);
        due.is("view(4, 0), 401 bytes", x.view(4, 0), 0);
        due.is("count(8), 401 bytes", x.count(8), 0);
        due.is("count(3)", x.count(3), 0);
        due.is("count(4)", x.count(4), 0);
        one.comes(128 + 21);
        due.is("count(4), one more behind it", x.count(4), 0);
    }

    private static void fourHundredAndOneThatIsNotTheLast(Due due) {
        due.says("so is one with which there would be more than 400 bytes");
        PointReports x = twoSegments();
        Forged one = new Forged(x, 1);
        bringTwenties(new Forged(x, 0), 20);
        one.part(0).comes(20);
        one.comes(128 + 20);
        due.is("count(4), the same number as the last one", x.count(4), 0);
        due.is("count(3)", x.count(3), 0);
        PointReports y = twoSegments();
        Forged f = new Forged(y, 0);
        bringTwenties(f, 20);
        f.comes(20);
        f.comes(128 + 21);
        due.is("count(4), 420 and 440 bytes", y.count(4), 0);
        due.is("count(3), 420 and 440 bytes", y.count(3), 0);
    }

    private static void aFirstOneBehindFourHundred(Due due) {
        due.says("A first segment begins anew");
        PointReports x = twoSegments();
        Forged f = new Forged(x, 0);
        int[] part = Wire.part(x, 0);
        Forged one = new Forged(x, 1);
        bringTwenties(f, 20);
        f.part(part).comes(64 + 20);
        one.comes(128 + 21);
        came(due, "behind 400 bytes", x, 2, 0);
    }

    private static void withTheLastOne(Due due) {
        due.says("With the last one the fragment is there");
        PointReports x = twoSegments();
        x.bring(0);
        came(due, "before the last one", x, 0, 0);
        due.is("flying() before the last one", x.flying(), 1);
        due.is("the last one", x.bring(0), 1);
        came(due, "with the last one", x, 2, 0);
        due.is("byte 3 of the CONFIRM", x.at(0, 3), 196);
    }
}
