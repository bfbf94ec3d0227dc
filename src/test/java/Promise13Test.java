/** feed: bytes of a fragment from outside. */
public final class Promise13Test {
    public static void main(String[] args) {
        Due due = new Due("Promise13Test");
        PointReports x = new PointReports();
        for (int wrong : new int[] {-1, 256, Integer.MIN_VALUE, Integer.MAX_VALUE}) {
            due.no("feed(" + wrong + ")", x.feed(wrong));
        }
        due.is("count(11) behind wrong ones", x.count(11), 0);
        due.yes("feed(0)", x.feed(0));
        due.yes("feed(255)", x.feed(255));
        for (int n = 2; n < 60; n++) {
            due.is("count(11)", x.count(11), n);
            due.yes("feed(" + n + ")", x.feed(n));
        }
        due.no("feed(1), no room", x.feed(1));
        due.is("count(11), full", x.count(11), 60);
        x.inject(1);
        due.is("count(11), gone", x.count(11), 0);
        due.yes("feed(1), room again", x.feed(1));
        all60Come(due);
        due.end();
    }

    /** A report of 60 bytes: all of them count. */
    private static void all60Come(Due due) {
        PointReports x = new PointReports();
        int[] report = new int[60];
        report[0] = 208;
        report[1] = 130;
        report[4] = 32;
        report[5] = 1;
        report[6] = 5;
        for (int n = 0; n < 5; n++) {
            report[7 + 7 * n] = n;
            report[8 + 7 * n] = 100 + n;
        }
        int k = 42;
        report[k] = 30;
        report[k + 1] = 2;
        report[k + 2] = 5;
        for (int n = 0; n < 5; n++) {
            report[k + 3 + 3 * n] = 5 + n;
            report[k + 4 + 3 * n] = 200 + n;
            report[k + 5 + 3 * n] = 1;
        }
        due.yes("inject(0)", Wire.inject(x, 0, report));
        due.is("view(4, 0)", x.view(4, 0), 104);
        due.is("view(9, 0)", x.view(9, 0), 204 + 256);
        report[59] = 2;
        due.yes("inject(0), a second time", Wire.inject(x, 0, report));
        due.is("view(9, 0) then", x.view(9, 0), 204 + 512);
    }
}
