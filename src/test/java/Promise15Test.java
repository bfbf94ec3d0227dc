/** view: what the master sees of a point. */
public final class Promise15Test {
    public static void main(String[] args) {
        Due due = new Due("Promise15Test");
        PointReports x = Wire.threeClasses();
        Wire.ticks(x, 2);
        x.change(0, 65535);
        x.change(9, 300);
        due.is("view(0, 0) before", x.view(0, 0), 0);
        x.poll(1);
        Wire.bringAll(x);
        due.is("view(0, 0), what is so", x.view(0, 0), 65535);
        due.is("view(0, 1), no event yet", x.view(0, 1), -1);
        due.is("view(9, 0)", x.view(9, 0), 300);
        x.poll(2);
        Wire.bringAll(x);
        due.is("view(0, 1), an event", x.view(0, 1), 2);
        due.is("view(9, 1), none", x.view(9, 1), -1);
        eventsAndStates(due);
        for (int wrong : new int[] {-1, 10, Integer.MIN_VALUE, Integer.MAX_VALUE}) {
            due.is("view(" + wrong + ", 0)", x.view(wrong, 0), -1);
            due.is("view(" + wrong + ", 1)", x.view(wrong, 1), -1);
        }
        for (int wrong : new int[] {-1, 2, Integer.MIN_VALUE, Integer.MAX_VALUE}) {
            due.is("view(0, " + wrong + ")", x.view(0, wrong), -1);
        }
        due.end();
    }

    private static void eventsAndStates(Due due) {
        PointReports x = new PointReports();
        Wire.inject(x, 0, 208, 130, 0, 0, 32, 1, 1, 4, 9, 0, 0, 0, 0, 0);
        due.is("view(4, 1), time 0", x.view(4, 1), 0);
        Wire.inject(x, 0, 208, 130, 0, 0, 32, 1, 1, 4, 8, 0, 0, 0, 0, 0);
        due.is("view(4, 0), the same time", x.view(4, 0), 9);
        Wire.inject(x, 0, 208, 130, 0, 0, 30, 2, 1, 4, 7, 1);
        due.is("view(4, 0), what is so", x.view(4, 0), 263);
        due.is("view(4, 1), as before", x.view(4, 1), 0);
        Wire.inject(x, 0, 208, 130, 0, 0, 32, 3, 1, 4, 6, 0, 255, 255, 255, 127);
        due.is("view(4, 0), the highest time", x.view(4, 0), 6);
        due.is("view(4, 1), the highest time", x.view(4, 1), Integer.MAX_VALUE);
        Wire.inject(x, 0, 208, 130, 0, 0, 32, 1, 1, 5, 1, 2, 3, 4, 5, 6);
        due.is("view(5, 0)", x.view(5, 0), 0x0201);
        due.is("view(5, 1)", x.view(5, 1), 0x06050403);
    }
}
