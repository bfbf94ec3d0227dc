/** The edges that the document's words on the master, and on fragments that are dropped, name. */
public final class BoundaryMasterTest {
    public static void main(String[] args) {
        Due due = new Due("BoundaryMasterTest");
        sequenceModulo16(due);
        sequenceOfTheLastReading(due);
        noReadingYet(due);
        ifThatWasNotAnswered(due);
        withoutUns(due);
        withUnsConOrNot(due);
        timeAboveTheLast(due);
        timeOfThatPoint(due);
        groupsInOrder(due);
        confirmedIfItHasCon(due);
        keepsTheTwoBytes(due);
        others(due);
        tooShort(due);
        tooLong(due);
        pointsAboveNine(due);
        timesOf2To31(due);
        classes(due);
        groupNumbers(due);
        howMany(due);
        whole(due);
        bothBitsAtTheMaster(due);
        bothBitsAtTheStation(due);
        toTheStationWithCon(due);
        aReadWithUns(due);
        confirmLength(due);
        functions(due);
        due.end();
    }

    /** A report with one event of class 1. */
    private static boolean event(PointReports x, int point, int value, int... time) {
        return Wire.inject(x, 0, 208, 130, 0, 0, 32, 1, 1, point, value, 0, time[0], time[1], time[2], time[3]);
    }

    private static void sequenceModulo16(Due due) {
        due.says("THE MASTER asks with SEQ the number of its readings so far modulo 16");
        PointReports x = new PointReports();
        for (int n = 0; n <= 33; n++) {
            due.is("reading " + n, x.poll(2), n % 16);
            due.is("SEQ of reading " + n, x.at(0, 11), 192 + n % 16);
            x.lose(0);
        }
        due.is("count(5)", x.count(5), 34);
    }

    private static void sequenceOfTheLastReading(Due due) {
        due.says("A RESPONSE without UNS with the SEQ of the last reading");
        // The last of 1, 2, 16 and 17 readings has the SEQ 0, 1, 15 and 0.
        for (int readings : new int[] {1, 2, 16, 17}) {
            PointReports x = new PointReports();
            for (int n = 0; n < readings; n++) {
                x.poll(2);
            }
            int seq = (readings - 1) % 16;
            due.no("SEQ before, " + readings, Wire.inject(x, 0, 192 + (seq + 15) % 16, 129, 2, 0));
            due.no("SEQ behind, " + readings, Wire.inject(x, 0, 192 + (seq + 1) % 16, 129, 2, 0));
            due.is("count(8), " + readings, x.count(8), 0);
            due.yes("SEQ of the last, " + readings, Wire.inject(x, 0, 192 + seq, 129, 2, 0));
            due.is("count(8) then, " + readings, x.count(8), 2);
            due.is("count(4), " + readings, x.count(4), 2);
        }
    }

    private static void noReadingYet(Due due) {
        due.says("with the SEQ of the last reading, if that was not answered");
        PointReports x = new PointReports();
        for (int seq = 0; seq < 16; seq++) {
            due.no("before any reading, SEQ " + seq, Wire.inject(x, 0, 192 + seq, 129, 2, 0));
        }
        due.is("poll(0), which is none", x.poll(0), -1);
        due.no("behind a reading that is none", Wire.inject(x, 0, 192, 129, 2, 0));
        due.is("count(4)", x.count(4), 17);
        due.is("count(8)", x.count(8), 0);
    }

    private static void ifThatWasNotAnswered(Due due) {
        due.says("if that was not answered");
        PointReports x = new PointReports();
        x.poll(2);
        due.no("a wrong response does not answer it", Wire.inject(x, 0, 192, 129, 2));
        due.yes("the first response", Wire.inject(x, 0, 192, 129, 2, 0));
        due.no("the second response", Wire.inject(x, 0, 192, 129, 4, 0));
        due.is("count(8)", x.count(8), 2);
        x.poll(2);
        due.yes("the first response to the next", Wire.inject(x, 0, 193, 129, 8, 0));
        due.is("count(8) then", x.count(8), 8);
        due.is("count(4)", x.count(4), 2);
    }

    private static void withoutUns(Due due) {
        due.says("A RESPONSE without UNS");
        PointReports x = new PointReports();
        x.poll(2);
        due.no("with UNS", Wire.inject(x, 0, 208, 129, 2, 0));
        due.no("with CON and UNS", Wire.inject(x, 0, 240, 129, 2, 0));
        due.yes("with CON", Wire.inject(x, 0, 224, 129, 2, 0));
        x.poll(2);
        due.yes("with neither", Wire.inject(x, 0, 193, 129, 2, 0));
        due.is("count(4)", x.count(4), 2);
    }

    private static void withUnsConOrNot(Due due) {
        due.says("or a REPORT with UNS (CON or not)");
        PointReports x = new PointReports();
        due.no("with neither", Wire.inject(x, 0, 192, 130, 2, 0));
        due.no("with CON", Wire.inject(x, 0, 224, 130, 2, 0));
        due.is("count(8)", x.count(8), 0);
        due.yes("with UNS", Wire.inject(x, 0, 208, 130, 2, 0));
        due.yes("with CON and UNS", Wire.inject(x, 0, 240, 130, 4, 0));
        due.yes("with CON, UNS and SEQ 15", Wire.inject(x, 0, 255, 130, 8, 0));
        due.is("count(8) then", x.count(8), 8);
        due.is("count(4)", x.count(4), 2);
    }

    private static void timeAboveTheLast(Due due) {
        due.says("an event is TAKEN, and becomes the view, if its time is above that of the last one taken of that point");
        PointReports x = new PointReports();
        event(x, 4, 10, 0, 0, 0, 0);
        due.is("view(4, 0), the first, at 0", x.view(4, 0), 10);
        event(x, 4, 11, 0, 0, 0, 0);
        due.is("view(4, 0), 0 again", x.view(4, 0), 10);
        event(x, 4, 12, 1, 0, 0, 0);
        due.is("view(4, 0), at 1", x.view(4, 0), 12);
        event(x, 4, 13, 255, 0, 0, 0);
        event(x, 4, 14, 0, 1, 0, 0);
        due.is("view(4, 0), at 256", x.view(4, 0), 14);
        event(x, 4, 15, 255, 0, 0, 0);
        due.is("view(4, 0), at 255 again", x.view(4, 0), 14);
        due.is("view(4, 1)", x.view(4, 1), 256);
        due.is("count(1)", x.count(1), 4);
        due.is("count(2)", x.count(2), 2);
        due.is("count(4), none is dropped", x.count(4), 0);
    }

    private static void timeOfThatPoint(Due due) {
        due.says("above that of the last one taken of that point");
        PointReports x = new PointReports();
        event(x, 0, 10, 9, 0, 0, 0);
        event(x, 9, 11, 8, 0, 0, 0);
        due.is("view(9, 0), below that of another point", x.view(9, 0), 11);
        Wire.inject(x, 0, 208, 130, 0, 0, 32, 3, 1, 0, 12, 0, 8, 0, 0, 0);
        due.is("view(0, 0), below, of another class", x.view(0, 0), 10);
        due.is("count(2)", x.count(2), 1);
    }

    private static void groupsInOrder(Due due) {
        due.says("it takes groups in order: what is so becomes its VIEW; an event is TAKEN");
        PointReports x = new PointReports();
        Wire.inject(x, 0, 208, 130, 0, 0, 30, 2, 1, 3, 5, 0, 32, 1, 1, 3, 6, 0, 1, 0, 0, 0);
        due.is("view(3, 0), the event comes last", x.view(3, 0), 6);
        Wire.inject(x, 0, 208, 130, 0, 0, 32, 1, 1, 3, 7, 0, 2, 0, 0, 0, 30, 2, 1, 3, 8, 0);
        due.is("view(3, 0), what is so comes last", x.view(3, 0), 8);
        due.is("view(3, 1)", x.view(3, 1), 2);
        due.is("taken(1, 1)", x.taken(1, 1), 7);
        Wire.inject(x, 0, 208, 130, 0, 0);
        due.is("count(4), no group at all", x.count(4), 0);
    }

    private static void confirmedIfItHasCon(Due due) {
        due.says("If it has CON, it is confirmed (with that SEQ, and UNS)");
        for (int seq : new int[] {0, 15}) {
            PointReports x = new PointReports();
            Wire.inject(x, 0, 208 + seq, 130, 0, 0);
            due.is("flying() without CON", x.flying(), 0);
            Wire.inject(x, 0, 240 + seq, 130, 0, 0);
            due.is("flying() with CON", x.flying(), 1);
            due.row("with UNS", Wire.part(x, 0), 208 + seq, 0);
            due.no("one that is dropped", Wire.inject(x, 0, 240 + seq, 130, 0));
            due.is("flying() behind it", x.flying(), 1);
        }
        PointReports y = new PointReports();
        for (int n = 0; n < 16; n++) {
            y.poll(2);
            y.lose(0);
        }
        Wire.inject(y, 0, 239, 129, 0, 0);
        due.row("without UNS", Wire.part(y, 0), 207, 0);
    }

    private static void keepsTheTwoBytes(Due due) {
        due.says("It keeps the two bytes");
        PointReports x = new PointReports();
        due.yes("0 and 0", Wire.inject(x, 0, 208, 130, 0, 0));
        due.is("count(8)", x.count(8), 0);
        due.is("count(9)", x.count(9), 0);
        due.yes("14 and 8", Wire.inject(x, 0, 208, 130, 14, 8));
        due.is("count(8)", x.count(8), 14);
        due.is("count(9)", x.count(9), 8);
        due.no("one that is dropped", Wire.inject(x, 0, 208, 130, 2, 0, 1));
        due.is("count(8) behind it", x.count(8), 14);
        due.is("count(9) behind it", x.count(9), 8);
    }

    private static void others(Due due) {
        due.says("Others (on either side) are dropped");
        PointReports x = new PointReports();
        x.poll(2);
        x.lose(0);
        due.no("CONFIRM at the master", Wire.inject(x, 0, 192, 0));
        due.no("CONFIRM with UNS at the master", Wire.inject(x, 0, 208, 0));
        due.no("READ at the master", Wire.inject(x, 0, 192, 1, 60, 1, 6));
        due.no("RESPONSE at the station", Wire.inject(x, 1, 192, 129, 0, 0));
        due.no("REPORT at the station", Wire.inject(x, 1, 208, 130, 0, 0));
        due.is("count(4)", x.count(4), 5);
        due.is("flying()", x.flying(), 0);
    }

    private static void tooShort(Due due) {
        due.says("too short");
        int[][] least = {{208, 130, 0, 0}, {208, 130, 0, 0, 30, 2, 1, 1, 5, 0}, {208, 130, 0, 0, 30, 2, 2, 1, 5, 0, 2, 6, 0},
            {208, 130, 0, 0, 32, 1, 1, 1, 5, 0, 3, 0, 0, 0},
            {208, 130, 0, 0, 32, 1, 2, 1, 5, 0, 3, 0, 0, 0, 2, 6, 0, 3, 0, 0, 0}};
        for (int[] f : least) {
            // Where a group ends the rest is left out, and what stands is whole again.
            for (int many = 0; many <= f.length; many++) {
                PointReports x = new PointReports();
                boolean whole = many == f.length || many == 4;
                due.is(many + " of " + f.length + " bytes", Wire.inject(x, 0, java.util.Arrays.copyOf(f, many)), whole);
                due.is("count(4), " + many + " of " + f.length, x.count(4), whole ? 0 : 1);
                if (!whole) {
                    due.is("view(1, 0), " + many + " of " + f.length, x.view(1, 0), 0);
                }
            }
        }
        int[][] atTheStation = {{192, 0}, {192, 1, 60, 1, 6}};
        for (int[] f : atTheStation) {
            for (int many = 0; many <= f.length; many++) {
                PointReports x = new PointReports();
                due.is(many + " of " + f.length + " bytes at the station",
                    Wire.inject(x, 1, java.util.Arrays.copyOf(f, many)), many == f.length);
            }
        }
    }

    private static void tooLong(Due due) {
        due.says("too long");
        int[][] most = {{208, 130, 0, 0}, {208, 130, 0, 0, 30, 2, 1, 1, 5, 0}, {208, 130, 0, 0, 32, 1, 1, 1, 5, 0, 3, 0, 0, 0}};
        for (int[] f : most) {
            for (int more = 0; more <= 2; more++) {
                PointReports x = new PointReports();
                due.is(f.length + " bytes and " + more, Wire.inject(x, 0, java.util.Arrays.copyOf(f, f.length + more)), more == 0);
                due.is("count(4), " + f.length + " bytes and " + more, x.count(4), more == 0 ? 0 : 1);
                due.is("view(1, 0), " + f.length + " bytes and " + more, x.view(1, 0), more == 0 && f.length > 4 ? 5 : 0);
            }
        }
    }

    private static void pointsAboveNine(Due due) {
        due.says("points above 9");
        for (int point : new int[] {0, 9, 10, 11, 128, 255}) {
            PointReports x = new PointReports();
            due.is("what is so, point " + point, Wire.inject(x, 0, 208, 130, 0, 0, 30, 2, 1, point, 5, 0), point <= 9);
            due.is("an event, point " + point, event(x, point, 6, 1, 0, 0, 0), point <= 9);
            due.is("count(4), point " + point, x.count(4), point <= 9 ? 0 : 2);
            due.is("the second of two, point " + point,
                Wire.inject(x, 0, 208, 130, 0, 0, 30, 2, 2, 1, 7, 0, point, 5, 0), point <= 9);
            due.is("view(1, 0), point " + point, x.view(1, 0), point <= 9 ? 7 : 0);
        }
    }

    private static void timesOf2To31(Due due) {
        due.says("times of 2^31 or more");
        int[][] times = {{254, 255, 255, 127}, {255, 255, 255, 127}, {0, 0, 0, 128}, {1, 0, 0, 128}, {255, 255, 255, 255}};
        for (int n = 0; n < times.length; n++) {
            PointReports x = new PointReports();
            due.is("time " + n, event(x, 4, 6, times[n]), n < 2);
            due.is("view(4, 0), time " + n, x.view(4, 0), n < 2 ? 6 : 0);
            due.is("view(4, 1), time " + n, x.view(4, 1), n < 2 ? Integer.MAX_VALUE - 1 + n : -1);
            due.is("count(4), time " + n, x.count(4), n < 2 ? 0 : 1);
        }
        PointReports y = new PointReports();
        event(y, 4, 6, 254, 255, 255, 127);
        event(y, 4, 7, 255, 255, 255, 127);
        due.is("view(4, 0), the highest behind the one before", y.view(4, 0), 7);
        event(y, 4, 8, 0, 0, 0, 0);
        due.is("view(4, 0), 0 behind the highest", y.view(4, 0), 7);
    }

    private static void classes(Due due) {
        due.says("other numbers (points above 9, times of 2^31 or more, classes)");
        for (int cls : new int[] {0, 1, 2, 3, 4, 255}) {
            PointReports x = new PointReports();
            boolean is = cls >= 1 && cls <= 3;
            due.is("class " + cls, Wire.inject(x, 0, 208, 130, 0, 0, 32, cls, 1, 4, 5, 0, 1, 0, 0, 0), is);
            due.is("taken(0, 3), class " + cls, x.taken(0, 3), is ? cls : -1);
            due.is("count(4), class " + cls, x.count(4), is ? 0 : 1);
        }
    }

    private static void groupNumbers(Due due) {
        due.says("then groups: 30, 2, 10");
        for (int more = -1; more <= 1; more++) {
            PointReports x = new PointReports();
            due.is("30 and " + more, Wire.inject(x, 0, 208, 130, 0, 0, 30 + more, 2, 1, 4, 5, 0), more == 0);
            due.is("2 and " + more, Wire.inject(x, 0, 208, 130, 0, 0, 30, 2 + more, 1, 4, 5, 0), more == 0);
            due.is("32 and " + more, Wire.inject(x, 0, 208, 130, 0, 0, 32 + more, 2, 1, 4, 5, 0, 1, 0, 0, 0), more == 0);
            due.is("count(4)", x.count(4), more == 0 ? 0 : 3);
        }
    }

    /** Two are there: with a lower count bytes are left over, with a higher one they are missing. */
    private static void howMany(Due due) {
        due.says("or 32, class, how many, and for each a point, value (2 bytes), time (4 bytes)");
        for (int many : new int[] {0, 1, 2, 3, 255}) {
            PointReports x = new PointReports();
            due.is("of what is so " + many,
                Wire.inject(x, 0, 208, 130, 0, 0, 30, 2, many, 4, 5, 0, 9, 6, 0), many == 2);
            due.is("view(9, 0), " + many, x.view(9, 0), many == 2 ? 6 : 0);
            due.is("of events " + many,
                Wire.inject(x, 0, 208, 130, 0, 0, 32, 1, many, 4, 5, 0, 1, 0, 0, 0, 9, 6, 0, 1, 0, 0, 0), many == 2);
            due.is("count(1), " + many, x.count(1), many == 2 ? 2 : 0);
            due.is("count(4), " + many, x.count(4), many == 2 ? 0 : 2);
        }
        // The document tells no least number, so a group at the end may have none.
        PointReports y = new PointReports();
        due.yes("none of what is so", Wire.inject(y, 0, 208, 130, 0, 0, 30, 2, 0));
        due.yes("no event", Wire.inject(y, 0, 208, 130, 0, 0, 32, 3, 0));
    }

    private static void whole(Due due) {
        due.says("dropped, as are fragments that are not as above, whole");
        PointReports x = new PointReports();
        due.no("a right group, then a wrong one", Wire.inject(x, 0, 240, 130, 2, 8,
            30, 2, 1, 4, 5, 0, 32, 1, 1, 4, 6, 0, 1, 0, 0, 0, 32, 1, 1, 10, 6, 0, 1, 0, 0, 0));
        due.is("view(4, 0)", x.view(4, 0), 0);
        due.is("count(1)", x.count(1), 0);
        due.is("count(8)", x.count(8), 0);
        due.is("flying()", x.flying(), 0);
        due.is("count(4)", x.count(4), 1);
    }

    private static void bothBitsAtTheMaster(Due due) {
        due.says("without both bits of 192");
        for (int bits = 0; bits <= 192; bits += 64) {
            PointReports x = new PointReports();
            x.poll(2);
            x.lose(0);
            due.is("REPORT with " + bits, Wire.inject(x, 0, bits + 16, 130, 2, 0), bits == 192);
            due.is("RESPONSE with " + bits, Wire.inject(x, 0, bits, 129, 2, 0), bits == 192);
            due.is("count(4) with " + bits, x.count(4), bits == 192 ? 0 : 2);
        }
        PointReports y = new PointReports();
        due.no("191, one below 192", Wire.inject(y, 0, 191, 130, 2, 0));
    }

    private static void bothBitsAtTheStation(Due due) {
        due.says("without both bits of 192");
        for (int bits = 0; bits <= 192; bits += 64) {
            PointReports x = Wire.threeClasses();
            x.change(0, 1);
            due.is("READ with " + bits, Wire.inject(x, 1, bits, 1, 60, 2, 6), bits == 192);
            due.is("CONFIRM with " + bits, Wire.inject(x, 1, bits, 0), bits == 192);
            due.is("event(1, 0, 0) with " + bits, x.event(1, 0, 0), bits == 192 ? -1 : 0);
            due.is("count(4) with " + bits, x.count(4), bits == 192 ? 0 : 2);
        }
    }

    private static void toTheStationWithCon(Due due) {
        due.says("what comes to the station with CON");
        PointReports x = Wire.threeClasses();
        x.change(0, 1);
        due.no("READ with CON", Wire.inject(x, 1, 224, 1, 60, 2, 6));
        due.yes("READ without", Wire.inject(x, 1, 192, 1, 60, 2, 6));
        due.no("CONFIRM with CON", Wire.inject(x, 1, 224, 0));
        due.is("event(1, 0, 3)", x.event(1, 0, 3), 1);
        due.yes("CONFIRM without", Wire.inject(x, 1, 192, 0));
        due.is("event(1, 0, 3)", x.event(1, 0, 3), -1);
        x.change(1, 1);
        x.reports(true);
        x.tick();
        due.no("CONFIRM with CON and UNS", Wire.inject(x, 1, 240, 0));
        due.is("event(2, 0, 3)", x.event(2, 0, 3), 1);
        due.yes("CONFIRM with UNS", Wire.inject(x, 1, 208, 0));
        due.is("event(2, 0, 3)", x.event(2, 0, 3), -1);
        due.is("count(4)", x.count(4), 3);
    }

    private static void aReadWithUns(Due due) {
        due.says("a READ with UNS");
        PointReports x = new PointReports();
        due.no("READ with UNS", Wire.inject(x, 1, 208, 1, 60, 2, 6));
        due.no("READ with UNS and CON", Wire.inject(x, 1, 240, 1, 60, 2, 6));
        due.is("flying()", x.flying(), 0);
        due.yes("READ without", Wire.inject(x, 1, 192, 1, 60, 2, 6));
        due.yes("READ without, SEQ 15", Wire.inject(x, 1, 207, 1, 60, 2, 6));
        due.is("flying()", x.flying(), 2);
        due.is("count(4)", x.count(4), 2);
    }

    private static void confirmLength(Due due) {
        due.says("too long");
        PointReports x = new PointReports();
        due.no("CONFIRM without its function", Wire.inject(x, 1, 192));
        due.yes("CONFIRM", Wire.inject(x, 1, 192, 0));
        due.no("CONFIRM and a byte", Wire.inject(x, 1, 192, 0, 0));
        due.is("count(4)", x.count(4), 2);
    }

    private static void functions(Due due) {
        due.says("a FUNCTION: 0 CONFIRM, 1 READ, 129 RESPONSE, 130 REPORT");
        for (int function : new int[] {0, 1, 2, 127, 128, 129, 130, 131, 255}) {
            PointReports x = new PointReports();
            x.poll(2);
            due.is("alone at the station " + function, Wire.inject(x, 1, 192, function), function == 0);
            due.is("as a READ " + function, Wire.inject(x, 1, 192, function, 60, 2, 6), function == 1);
            due.is("as a REPORT " + function, Wire.inject(x, 0, 208, function, 0, 0), function == 130);
            due.is("as a RESPONSE " + function, Wire.inject(x, 0, 192, function, 0, 0), function == 129);
        }
    }
}
