/** The edges that the document's words on the station's events, reports and confirmations name. */
public final class BoundaryStationTest {
    public static void main(String[] args) {
        Due due = new Due("BoundaryStationTest");
        aClassAboveZero(due);
        keepsEight(due);
        eachClassKeepsEight(due);
        theOldestThatWaitsIsLost(due);
        knowsThatEventsWereLost(due);
        lostIsKnownBehindOtherReadings(due);
        notKnownBehindTheResponse(due);
        lostAnew(due);
        ifItMay(due);
        ifThereAreEvents(due);
        noReportWaits(due);
        noneOtherWaits(due);
        sequenceModulo16(due);
        sixteenInAReport(due);
        fiveTicksBehind(due);
        threeTimes(due);
        fiveBehindThat(due);
        theNextTickAtTheEarliest(due);
        asItWas(due);
        aConfirmAtTheLastTick(due);
        thatSequence(due);
        unsAsOfWhatWaits(due);
        thoseThatAreStillThere(due);
        anotherConfirmDoesNothing(due);
        due.end();
    }

    /** A report waits, sent for the first time at time 1. */
    private static PointReports reported() {
        PointReports x = Wire.threeClasses();
        x.reports(true);
        x.change(0, 7);
        x.tick();
        return x;
    }

    private static int lostByte(PointReports x, int v) {
        Wire.inject(x, 1, 192, 1, 60, v, 6);
        int b = x.at(0, 14);
        for (int n = x.flying(); n > 0; n--) {
            x.lose(0);
        }
        return b;
    }

    private static void aClassAboveZero(Due due) {
        due.says("A change of one with a class above 0 is an EVENT of that class, with its time");
        PointReports x = new PointReports();
        x.kind(0, 0);
        x.kind(1, 1);
        x.kind(9, 3);
        x.tick();
        x.change(0, 5);
        x.change(1, 6);
        x.change(9, 7);
        due.is("event(1, 0, 0), class 1", x.event(1, 0, 0), 1);
        due.is("event(1, 0, 2), its time", x.event(1, 0, 2), 1);
        due.is("event(1, 1, 0), class 0 is none", x.event(1, 1, 0), -1);
        due.is("event(2, 0, 0)", x.event(2, 0, 0), -1);
        due.is("event(3, 0, 0), class 3", x.event(3, 0, 0), 9);
        due.is("event(3, 1, 0)", x.event(3, 1, 0), -1);
    }

    private static void keepsEight(Due due) {
        due.says("of each class it keeps 8: of more the oldest is lost");
        for (int many = 7; many <= 10; many++) {
            PointReports x = new PointReports();
            for (int n = 0; n < many; n++) {
                x.kind(n % 3, 1);
                x.tick();
                x.change(n % 3, 100 + n);
            }
            int lost = Math.max(0, many - 8);
            for (int k = 0; k < many - lost; k++) {
                due.is("point of event " + k + " of " + many, x.event(1, k, 0), (lost + k) % 3);
                due.is("value of event " + k + " of " + many, x.event(1, k, 1), 100 + lost + k);
                due.is("time of event " + k + " of " + many, x.event(1, k, 2), 1 + lost + k);
            }
            due.is("none behind them of " + many, x.event(1, many - lost, 1), -1);
            due.is("count(7) of " + many, x.count(7), lost);
        }
    }

    private static void eachClassKeepsEight(Due due) {
        due.says("of each class it keeps 8: of more the oldest is lost");
        PointReports x = Wire.eightOfEach();
        due.is("count(7) with 24", x.count(7), 0);
        x.tick();
        x.change(1, 55);
        due.is("count(7) with a ninth of class 2", x.count(7), 1);
        due.is("event(1, 0, 1)", x.event(1, 0, 1), 0);
        due.is("event(2, 0, 1)", x.event(2, 0, 1), 1);
        due.is("event(2, 7, 1)", x.event(2, 7, 1), 55);
        due.is("event(3, 0, 1)", x.event(3, 0, 1), 0);
    }

    private static void theOldestThatWaitsIsLost(Due due) {
        due.says("of each class it keeps 8: of more the oldest is lost");
        PointReports x = Wire.threeClasses();
        Wire.changes(x, 0, 8, 0);
        Wire.inject(x, 1, 192, 1, 60, 2, 6);
        due.is("event(1, 7, 3)", x.event(1, 7, 3), 1);
        Wire.changes(x, 0, 1, 8);
        due.is("event(1, 6, 3) with a ninth", x.event(1, 6, 3), 1);
        due.is("event(1, 7, 3), the ninth", x.event(1, 7, 3), 0);
    }

    private static void knowsThatEventsWereLost(Due due) {
        due.says("a byte (8, if events were lost, else 0)");
        PointReports x = Wire.threeClasses();
        Wire.changes(x, 0, 8, 0);
        due.is("with 8 events", lostByte(x, 2), 0);
        Wire.changes(x, 0, 1, 0);
        due.is("with 9 events", lostByte(x, 2), 8);
        PointReports y = Wire.threeClasses();
        Wire.changes(y, 0, 8, 0);
        y.reports(true);
        y.tick();
        due.is("a report with 8 events", y.at(0, 14), 0);
        PointReports z = Wire.threeClasses();
        Wire.changes(z, 0, 9, 0);
        z.reports(true);
        z.tick();
        due.is("a report with 9 events", z.at(0, 14), 8);
    }

    private static void lostIsKnownBehindOtherReadings(Due due) {
        due.says("With v 1 in it, lost events are not known any more behind the response");
        PointReports x = Wire.threeClasses();
        Wire.changes(x, 0, 9, 0);
        for (int v = 2; v <= 4; v++) {
            due.is("v " + v, lostByte(x, v), 8);
        }
        x.reports(true);
        x.tick();
        due.is("a report", x.at(0, 14), 8);
        due.yes("CONFIRM of the report", Wire.inject(x, 1, 208, 0));
        x.change(0, 1);
        x.tick();
        due.is("another report, though all was confirmed", x.at(x.flying() - 1, 14), 8);
    }

    private static void notKnownBehindTheResponse(Due due) {
        due.says("With v 1 in it, lost events are not known any more behind the response");
        PointReports x = Wire.threeClasses();
        Wire.changes(x, 0, 9, 0);
        due.is("the response with v 1", lostByte(x, 1), 8);
        due.is("the next one", lostByte(x, 1), 0);
        PointReports y = Wire.threeClasses();
        Wire.changes(y, 0, 9, 0);
        Wire.inject(y, 1, 192, 1, 60, 2, 6, 60, 3, 6, 60, 4, 6, 60, 1, 6);
        due.is("the response with v 1 at its end", y.at(0, 14), 8);
        Wire.bringAll(y);
        due.is("the next one", lostByte(y, 2), 0);
        PointReports z = Wire.threeClasses();
        Wire.changes(z, 0, 9, 0);
        due.no("a READ that is dropped", Wire.inject(z, 1, 192, 1, 60, 1, 6, 60, 5, 6));
        due.is("the response behind it", lostByte(z, 2), 8);
    }

    private static void lostAnew(Due due) {
        due.says("and it knows that events were LOST");
        PointReports x = Wire.threeClasses();
        Wire.changes(x, 0, 9, 0);
        lostByte(x, 1);
        due.is("not known any more", lostByte(x, 2), 0);
        Wire.changes(x, 0, 1, 0);
        due.is("lost anew", lostByte(x, 2), 8);
        due.is("count(7)", x.count(7), 2);
    }

    private static void ifItMay(Due due) {
        due.says("In a TICK, if it may report");
        PointReports x = Wire.threeClasses();
        x.change(0, 1);
        x.tick();
        due.is("flying(), it may not", x.flying(), 0);
        x.reports(true);
        due.is("flying(), it may, before the tick", x.flying(), 0);
        x.tick();
        due.is("flying(), it may", x.flying(), 1);
        x.reports(false);
        x.tick();
        due.is("flying(), it may no more", x.flying(), 1);
    }

    private static void ifThereAreEvents(Due due) {
        due.says("and there are events");
        for (int cls = 0; cls <= 3; cls++) {
            PointReports x = new PointReports();
            x.kind(4, cls);
            x.reports(true);
            x.tick();
            due.is("flying() without a change", x.flying(), 0);
            x.change(4, 1);
            x.tick();
            due.is("flying() with a change of class " + cls, x.flying(), cls == 0 ? 0 : 1);
            due.is("count(6) with a change of class " + cls, x.count(6), cls == 0 ? 0 : 1);
        }
    }

    private static void noReportWaits(Due due) {
        due.says("and no report waits");
        PointReports x = reported();
        x.change(1, 1);
        x.tick();
        due.is("flying() while one waits", x.flying(), 1);
        due.is("count(6) while one waits", x.count(6), 1);
        due.yes("CONFIRM", Wire.inject(x, 1, 208, 0));
        x.tick();
        due.is("count(6) when none waits", x.count(6), 2);
    }

    private static void noneOtherWaits(Due due) {
        due.says("these wait then (none other)");
        PointReports x = Wire.eightOfEach();
        Wire.inject(x, 1, 192, 1, 60, 4, 6);
        due.is("event(3, 0, 3), the response", x.event(3, 0, 3), 1);
        x.reports(true);
        x.tick();
        due.is("event(1, 7, 3), the report", x.event(1, 7, 3), 1);
        due.is("event(2, 7, 3), the report", x.event(2, 7, 3), 1);
        due.is("event(3, 0, 3), not in the report", x.event(3, 0, 3), 0);
    }

    private static void sequenceModulo16(Due due) {
        due.says("SEQ the number of reports so far modulo 16");
        PointReports x = Wire.threeClasses();
        x.reports(true);
        for (int n = 0; n <= 32; n++) {
            x.change(0, n);
            x.tick();
            if (n % 16 < 2 || n % 16 > 13) {
                due.is("SEQ of report " + n, x.at(0, 11), 192 + 32 + 16 + n % 16);
            }
            x.bring(0);
            x.bring(0);
            due.is("confirmed, report " + n, x.event(1, 0, 0), -1);
        }
        due.is("count(6)", x.count(6), 33);
    }

    private static void sixteenInAReport(Due due) {
        due.says("and events of classes 1, 2, 3, at most 16 in all");
        for (int third = 1; third <= 2; third++) {
            PointReports x = Wire.threeClasses();
            Wire.changes(x, 2, third, 0);
            Wire.changes(x, 1, 7, 0);
            Wire.changes(x, 0, 8, 0);
            x.reports(true);
            x.tick();
            int[] report = Wire.fragment(x, 0, x.flying());
            due.is("length with " + (15 + third), report.length, 4 + 9 + 16 * 7);
            due.is("what is left of " + (15 + third), report[2], third == 1 ? 0 : 8);
            due.is("class of the first group", report[5], 1);
            due.is("class of the second group", report[4 + 59 + 1], 2);
            due.is("class of the third group", report[4 + 59 + 52 + 1], 3);
            due.is("event(3, 0, 3)", x.event(3, 0, 3), 1);
            due.is("event(3, 1, 3)", x.event(3, 1, 3), third == 1 ? -1 : 0);
        }
    }

    private static void fiveTicksBehind(Due due) {
        due.says("5 ticks behind the last sending");
        PointReports x = reported();
        Wire.ticks(x, 4);
        due.is("flying(), 4 ticks behind the first", x.flying(), 1);
        x.tick();
        due.is("flying(), 5 ticks behind the first", x.flying(), 2);
        Wire.ticks(x, 4);
        due.is("flying(), 4 ticks behind the second", x.flying(), 2);
        x.tick();
        due.is("flying(), 5 ticks behind the second", x.flying(), 3);
    }

    private static void threeTimes(Due due) {
        due.says("5 ticks behind the last sending, three times");
        PointReports x = reported();
        Wire.ticks(x, 14);
        due.is("flying() before the third time", x.flying(), 3);
        x.tick();
        due.is("flying(), the third time", x.flying(), 4);
        Wire.ticks(x, 5);
        due.is("flying(), no fourth time", x.flying(), 4);
        due.is("count(6)", x.count(6), 1);
    }

    private static void fiveBehindThat(Due due) {
        due.says("5 behind that it waits no more (the events stay");
        PointReports x = reported();
        Wire.ticks(x, 19);
        due.is("count(10), 4 behind that", x.count(10), 1);
        due.is("event(1, 0, 3), 4 behind that", x.event(1, 0, 3), 1);
        x.tick();
        due.is("count(10), 5 behind that", x.count(10), 0);
        due.is("event(1, 0, 3), 5 behind that", x.event(1, 0, 3), 0);
        due.is("event(1, 0, 1), it stays", x.event(1, 0, 1), 7);
    }

    private static void theNextTickAtTheEarliest(Due due) {
        due.says("a new report comes in the next tick at the earliest");
        PointReports x = reported();
        Wire.ticks(x, 20);
        due.is("flying() in the tick in which it waits no more", x.flying(), 4);
        due.is("count(6) then", x.count(6), 1);
        x.tick();
        due.is("flying() in the next tick", x.flying(), 5);
        due.is("count(6) in the next tick", x.count(6), 2);
        due.is("its SEQ", x.at(4, 11), 192 + 32 + 16 + 1);
        Wire.ticks(x, 4);
        due.is("flying() 4 behind the new one", x.flying(), 5);
        x.tick();
        due.is("flying() 5 behind the new one", x.flying(), 6);
    }

    private static void asItWas(Due due) {
        due.says("A report that waits is sent again, as it was (but with segments' numbers that go on)");
        PointReports x = reported();
        int[] first = Wire.part(x, 0);
        Wire.changes(x, 0, 8, 50);
        due.is("its event is lost", x.count(7), 1);
        Wire.ticks(x, 7);
        due.is("flying()", x.flying(), 4);
        for (int n = 1; n <= 3; n++) {
            due.row("sent again, time " + n, Wire.part(x, n), first);
            due.is("number, time " + n, x.at(n, 10), 192 + n);
        }
    }

    private static void aConfirmAtTheLastTick(Due due) {
        due.says("5 behind that it waits no more");
        PointReports x = reported();
        Wire.ticks(x, 19);
        due.yes("CONFIRM, 4 behind that", Wire.inject(x, 1, 208, 0));
        due.is("event(1, 0, 0)", x.event(1, 0, 0), -1);
        PointReports y = reported();
        Wire.ticks(y, 20);
        due.yes("CONFIRM, 5 behind that", Wire.inject(y, 1, 208, 0));
        due.is("event(1, 0, 0)", y.event(1, 0, 0), 0);
        due.is("count(4)", y.count(4), 0);
    }

    private static void thatSequence(Due due) {
        due.says("CONFIRM with that SEQ, UNS as of what waits: events that wait are gone");
        for (int seq : new int[] {0, 1, 14, 15}) {
            PointReports x = Wire.threeClasses();
            x.change(0, 1);
            Wire.inject(x, 1, 192 + seq, 1, 60, 2, 6);
            due.yes("CONFIRM of the number before", Wire.inject(x, 1, 192 + (seq + 15) % 16, 0));
            due.yes("CONFIRM of the number behind", Wire.inject(x, 1, 192 + (seq + 1) % 16, 0));
            due.is("count(10) with SEQ " + seq, x.count(10), 1);
            due.is("event(1, 0, 3) with SEQ " + seq, x.event(1, 0, 3), 1);
            due.yes("CONFIRM of SEQ " + seq, Wire.inject(x, 1, 192 + seq, 0));
            due.is("count(10) behind it", x.count(10), 0);
            due.is("event(1, 0, 3) behind it", x.event(1, 0, 3), -1);
        }
    }

    private static void unsAsOfWhatWaits(Due due) {
        due.says("CONFIRM with that SEQ, UNS as of what waits");
        PointReports x = reported();
        due.yes("of a report, without UNS", Wire.inject(x, 1, 192, 0));
        due.is("event(1, 0, 3)", x.event(1, 0, 3), 1);
        due.yes("of a report, with UNS", Wire.inject(x, 1, 208, 0));
        due.is("event(1, 0, 3)", x.event(1, 0, 3), -1);
        x.change(1, 1);
        Wire.inject(x, 1, 192, 1, 60, 3, 6);
        due.yes("of a response, with UNS", Wire.inject(x, 1, 208, 0));
        due.is("event(2, 0, 3)", x.event(2, 0, 3), 1);
        due.yes("of a response, without UNS", Wire.inject(x, 1, 192, 0));
        due.is("event(2, 0, 3)", x.event(2, 0, 3), -1);
    }

    private static void thoseThatAreStillThere(Due due) {
        due.says("events that wait are gone (those that are still there)");
        // Of two events that wait, none, one and both are lost before the confirmation comes.
        for (int lost = 0; lost <= 3; lost++) {
            PointReports x = Wire.threeClasses();
            Wire.changes(x, 0, 2, 100);
            Wire.inject(x, 1, 192, 1, 60, 2, 6);
            Wire.changes(x, 0, 6 + lost, 200);
            due.is("count(7)", x.count(7), lost);
            due.yes("CONFIRM, " + lost + " lost", Wire.inject(x, 1, 192, 0));
            due.is("the oldest, " + lost + " lost", x.event(1, 0, 1), lost == 3 ? 201 : 200);
            due.is("the last, " + lost + " lost", x.event(1, lost == 3 ? 7 : 5 + lost, 1), 200 + 5 + lost);
            due.is("none behind it, " + lost + " lost", x.event(1, lost == 3 ? 8 : 6 + lost, 1), -1);
            due.is("count(10), " + lost + " lost", x.count(10), 0);
        }
    }

    private static void anotherConfirmDoesNothing(Due due) {
        due.says("another CONFIRM does nothing (it is not dropped)");
        PointReports x = Wire.threeClasses();
        due.yes("nothing waits", Wire.inject(x, 1, 192, 0));
        x.change(0, 1);
        due.yes("nothing waits, but there is an event", Wire.inject(x, 1, 192, 0));
        due.yes("nothing waits, with UNS", Wire.inject(x, 1, 208, 0));
        due.is("event(1, 0, 0)", x.event(1, 0, 0), 0);
        Wire.inject(x, 1, 192, 1, 60, 2, 6);
        due.yes("CONFIRM", Wire.inject(x, 1, 192, 0));
        x.change(1, 1);
        due.yes("CONFIRM once more", Wire.inject(x, 1, 192, 0));
        due.is("event(2, 0, 0)", x.event(2, 0, 0), 1);
        due.is("count(4)", x.count(4), 0);
        due.is("flying()", x.flying(), 1);
    }
}
