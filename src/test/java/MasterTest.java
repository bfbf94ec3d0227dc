/** Terms: what the master does with fragments. */
public final class MasterTest {
    public static void main(String[] args) {
        Due due = new Due("MasterTest");
        responses(due);
        reports(due);
        confirms(due);
        groupsInOrder(due);
        dropped(due);
        droppedWhole(due);
        due.end();
    }

    private static void responses(Due due) {
        PointReports x = new PointReports();
        due.no("RESPONSE before a reading", Wire.inject(x, 0, 192, 129, 0, 0));
        due.no("RESPONSE before a reading, SEQ 15", Wire.inject(x, 0, 207, 129, 0, 0));
        x.poll(1);
        x.poll(1);
        due.no("RESPONSE to an earlier reading", Wire.inject(x, 0, 192, 129, 0, 0));
        due.no("RESPONSE to a later reading", Wire.inject(x, 0, 194, 129, 0, 0));
        due.no("RESPONSE with UNS", Wire.inject(x, 0, 193 + 16, 129, 0, 0));
        due.no("RESPONSE that is too short", Wire.inject(x, 0, 193, 129, 0));
        due.no("RESPONSE with a wrong group", Wire.inject(x, 0, 193, 129, 0, 0, 30, 2, 1, 10, 0, 0));
        due.yes("RESPONSE", Wire.inject(x, 0, 193, 129, 2, 8));
        due.no("RESPONSE again", Wire.inject(x, 0, 193, 129, 4, 0));
        due.is("count(4)", x.count(4), 8);
        due.is("count(8)", x.count(8), 2);
        due.is("count(9)", x.count(9), 8);
        x.poll(1);
        due.yes("RESPONSE to the next reading, with CON", Wire.inject(x, 0, 194 + 32, 129, 0, 0));
        due.is("count(8) then", x.count(8), 0);
        for (int n = 3; n < 17; n++) {
            x.poll(1);
        }
        due.yes("RESPONSE to the 17th reading", Wire.inject(x, 0, 192, 129, 0, 0));
    }

    private static void reports(Due due) {
        PointReports x = new PointReports();
        due.no("REPORT without UNS", Wire.inject(x, 0, 192, 130, 0, 0));
        due.no("REPORT with CON alone", Wire.inject(x, 0, 224, 130, 0, 0));
        for (int seq = 0; seq < 16; seq++) {
            due.yes("REPORT with UNS, SEQ " + seq, Wire.inject(x, 0, 208 + seq, 130, 0, 0));
            due.is("no confirmation", x.flying(), 0);
        }
        due.yes("the same REPORT again", Wire.inject(x, 0, 208, 130, 0, 0));
        x.poll(2);
        due.yes("a REPORT between", Wire.inject(x, 0, 208, 130, 0, 0));
        due.yes("does not answer the reading", Wire.inject(x, 0, 192, 129, 0, 0));
    }

    private static void confirms(Due due) {
        PointReports x = new PointReports();
        Wire.inject(x, 0, 240 + 9, 130, 0, 0);
        due.row("CONFIRM of a REPORT", Wire.part(x, 0), 208 + 9, 0);
        due.is("segment's first byte", x.at(0, 10), 192);
        due.is("byte 3", x.at(0, 3), 196);
        x.lose(0);
        x.poll(2);
        x.lose(0);
        Wire.inject(x, 0, 224, 129, 0, 0);
        due.row("CONFIRM of a RESPONSE", Wire.part(x, 0), 192, 0);
        due.is("segment's first byte then", x.at(0, 10), 192 + 2);
        x.lose(0);
        Wire.inject(x, 0, 224, 129, 0, 0);
        due.is("what is dropped is not confirmed", x.flying(), 0);
    }

    private static void groupsInOrder(Due due) {
        PointReports x = new PointReports();
        due.yes("states, event, states", Wire.inject(x, 0, 208, 130, 0, 0,
            30, 2, 2, 1, 5, 0, 2, 6, 0,
            32, 2, 1, 1, 7, 0, 3, 0, 0, 0,
            32, 1, 2, 2, 8, 0, 4, 0, 0, 0, 2, 9, 0, 4, 0, 0, 0,
            30, 2, 1, 3, 255, 255));
        due.is("view(1, 0), the event is later", x.view(1, 0), 7);
        due.is("view(2, 0), the first of the same time", x.view(2, 0), 8);
        due.is("view(3, 0)", x.view(3, 0), 65535);
        due.is("count(1)", x.count(1), 2);
        due.is("count(2)", x.count(2), 1);
        due.is("taken(1, 3)", x.taken(1, 3), 1);
        due.yes("event, then states", Wire.inject(x, 0, 208, 130, 0, 0,
            32, 3, 1, 1, 1, 0, 9, 0, 0, 0, 30, 2, 1, 1, 2, 0));
        due.is("view(1, 0), what is so is later", x.view(1, 0), 2);
        due.is("view(1, 1)", x.view(1, 1), 9);
        // The document does not say that a group must have something in it.
        due.yes("groups of none", Wire.inject(x, 0, 208, 130, 0, 0, 32, 1, 0, 30, 2, 0));
    }

    private static void dropped(Due due) {
        int[][] wrong = {{}, {208}, {208, 130}, {208, 130, 0}, {208, 0}, {208, 1, 60, 1, 6}, {208, 131, 0, 0},
            {208, 129, 0, 0}, {80, 130, 0, 0}, {144, 130, 0, 0}, {16, 130, 0, 0},
            {208, 130, 0, 0, 30}, {208, 130, 0, 0, 30, 2}, {208, 130, 0, 0, 30, 2, 1}, {208, 130, 0, 0, 30, 2, 1, 1, 1},
            {208, 130, 0, 0, 30, 2, 1, 1, 1, 1, 0}, {208, 130, 0, 0, 30, 1, 1, 1, 1, 1}, {208, 130, 0, 0, 31, 2, 1, 1, 1, 1},
            {208, 130, 0, 0, 30, 2, 1, 10, 1, 1}, {208, 130, 0, 0, 30, 2, 2, 1, 1, 1}, {208, 130, 0, 0, 30, 2, 2, 1, 1, 1, 255, 1, 1},
            {208, 130, 0, 0, 32, 1, 1, 1, 1, 1, 1, 1, 1}, {208, 130, 0, 0, 32, 0, 1, 1, 1, 1, 1, 1, 1, 1},
            {208, 130, 0, 0, 32, 4, 1, 1, 1, 1, 1, 1, 1, 1}, {208, 130, 0, 0, 32, 1, 1, 10, 1, 1, 1, 1, 1, 1},
            {208, 130, 0, 0, 32, 1, 1, 1, 1, 1, 1, 1, 1, 128}, {208, 130, 0, 0, 32, 1, 1, 1, 1, 1, 1, 1, 1, 1, 7},
            {208, 130, 0, 0, 32, 1, 2, 1, 1, 1, 1, 1, 1, 1}};
        PointReports x = new PointReports();
        for (int n = 0; n < wrong.length; n++) {
            due.no("wrong fragment " + n, Wire.inject(x, 0, wrong[n]));
            due.is("count(4) behind " + n, x.count(4), n + 1);
        }
        due.is("count(1)", x.count(1), 0);
        due.is("view(1, 0)", x.view(1, 0), 0);
    }

    private static void droppedWhole(Due due) {
        PointReports x = new PointReports();
        Wire.inject(x, 0, 208, 130, 2, 8);
        due.no("a right group before a wrong one", Wire.inject(x, 0, 240, 130, 4, 0,
            30, 2, 1, 1, 5, 0, 32, 1, 1, 1, 7, 0, 3, 0, 0, 0, 32, 4, 0));
        due.is("view(1, 0)", x.view(1, 0), 0);
        due.is("view(1, 1)", x.view(1, 1), -1);
        due.is("count(1)", x.count(1), 0);
        due.is("count(8)", x.count(8), 2);
        due.is("count(9)", x.count(9), 8);
        due.is("not confirmed", x.flying(), 0);
    }
}
