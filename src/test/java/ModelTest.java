import java.util.Random;

/** Long runs of mixed calls, on the class and on the plain model: all answers must be the same. */
public final class ModelTest {
    private static final int RUNS = 6000;
    /** An object is promised to answer for so many calls. */
    private static final int CALLS = 512;
    private static final int LONGEST_STEP = 64;

    private final Due due = new Due("ModelTest");
    private final Random random;
    private final PointReports x = new PointReports();
    private final PlainModel m = new PlainModel();
    private final int run;
    private final int style;
    private int call;

    private ModelTest(int run) {
        this.run = run;
        this.random = new Random(run);
        this.style = run % 5;
    }

    public static void main(String[] args) {
        for (int run = 0; run < RUNS; run++) {
            ModelTest test = new ModelTest(run);
            test.calls();
            if (test.due.hasWrong()) {
                test.due.end();
            }
        }
        System.out.println(RUNS + " runs of " + CALLS + " calls are as due");
    }

    private void calls() {
        for (int p = 0; p < 10; p++) {
            same("kind", x.kind(p, p % 4), m.kind(p, p % 4));
        }
        while (call < CALLS - LONGEST_STEP && !due.hasWrong()) {
            step();
        }
        while (call < CALLS && !due.hasWrong()) {
            look();
        }
    }

    private void step() {
        int n = random.nextInt(100);
        if (style == 4 && n < 60) {
            feedFragment();
        } else if (n < 25) {
            int p = some(10);
            int v = random.nextInt(10) == 0 ? some(65536) : random.nextInt(65536);
            same("change(" + p + ", " + v + ")", x.change(p, v), m.change(p, v));
        } else if (n < 38) {
            same("tick()", x.tick(), m.tick());
        } else if (n < 45) {
            int what = random.nextInt(8) == 0 ? some(16) : 1 + random.nextInt(15);
            same("poll(" + what + ")", x.poll(what), m.poll(what));
        } else if (n < 80) {
            fly(n);
        } else if (n < 84) {
            spoil();
        } else if (n < 86) {
            boolean may = random.nextInt(4) != 0;
            call++;
            x.reports(may);
            m.reports(may);
        } else if (n < 88) {
            int p = some(10);
            int c = some(4);
            same("kind(" + p + ", " + c + ")", x.kind(p, c), m.kind(p, c));
        } else if (n < 91) {
            feedFragment();
        } else {
            look();
        }
    }

    /** Mostly the oldest frame, and mostly brought, so that whole fragments come through. */
    private void fly(int n) {
        int i = random.nextInt(style == 1 ? 3 : 30) == 0 ? some(Math.max(1, m.flying())) : 0;
        if (n < 74 || style == 3) {
            same("bring(" + i + ")", x.bring(i), m.bring(i));
        } else if (n < 78) {
            same("twice(" + i + ")", x.twice(i), m.twice(i));
        } else {
            same("lose(" + i + ")", x.lose(i), m.lose(i));
        }
    }

    /** A byte is changed; in some runs the checks are then made right again. */
    private void spoil() {
        int i = some(Math.max(1, m.flying()));
        int k = random.nextBoolean() ? 10 : some(35);
        int mask = random.nextInt(6) == 0 ? some(256) : 1 << random.nextInt(8);
        same("poke(" + i + ", " + k + ", " + mask + ")", x.poke(i, k, mask), m.poke(i, k, mask));
        if (style == 2) {
            seal(i);
        }
    }

    private void seal(int i) {
        int length = 0;
        while (m.at(i, length) != PointReports.BAD) {
            length++;
        }
        int[] has = new int[length];
        for (int k = 0; k < length; k++) {
            has[k] = m.at(i, k);
        }
        int[] gets = length == 0 ? has : Wire.sealed(has);
        for (int k = 0; k < length; k++) {
            if (has[k] != gets[k]) {
                same("poke to seal", x.poke(i, k, has[k] ^ gets[k]), m.poke(i, k, has[k] ^ gets[k]));
            }
        }
    }

    private void feedFragment() {
        int side = random.nextInt(2);
        int[] f = side == 0 ? reply() : request();
        if (random.nextInt(3) == 0) {
            f[random.nextInt(f.length)] = random.nextInt(256);
        }
        int length = random.nextInt(4) == 0 ? random.nextInt(f.length + 1) : f.length;
        for (int k = 0; k < length; k++) {
            same("feed(" + f[k] + ")", x.feed(f[k]), m.feed(f[k]));
        }
        int to = random.nextInt(20) == 0 ? some(2) : side;
        same("inject(" + to + ")", x.inject(to), m.inject(to));
    }

    private int[] request() {
        if (random.nextInt(3) == 0) {
            return new int[] {192 + random.nextInt(64), 0};
        }
        int many = 1 + random.nextInt(5);
        int[] f = new int[2 + 3 * many];
        f[0] = 192 + random.nextInt(random.nextInt(4) == 0 ? 64 : 16);
        f[1] = 1;
        for (int k = 2; k < f.length; k += 3) {
            f[k] = 60;
            f[k + 1] = random.nextInt(10) == 0 ? random.nextInt(6) : 1 + random.nextInt(4);
            f[k + 2] = 6;
        }
        return f;
    }

    private int[] reply() {
        int states = random.nextInt(3);
        int events = random.nextInt(5);
        boolean response = random.nextInt(3) == 0;
        int[] f = new int[4 + 3 + 3 * states + 3 + 7 * events];
        f[0] = 192 + random.nextInt(64);
        if (response) {
            f[0] = 192 + random.nextInt(2) * 32 + (m.count(5) + 15) % 16;
        } else if (random.nextInt(4) != 0) {
            f[0] |= 16;
        }
        f[1] = response ? 129 : 130;
        f[2] = random.nextInt(256);
        f[3] = random.nextInt(256);
        int k = 4;
        f[k++] = 30;
        f[k++] = 2;
        f[k++] = states;
        for (int n = 0; n < states; n++) {
            f[k++] = random.nextInt(10);
            f[k++] = random.nextInt(256);
            f[k++] = random.nextInt(256);
        }
        f[k++] = 32;
        f[k++] = 1 + random.nextInt(3);
        f[k++] = events;
        for (int n = 0; n < events; n++) {
            f[k++] = random.nextInt(10);
            f[k++] = random.nextInt(256);
            f[k++] = random.nextInt(256);
            f[k++] = random.nextInt(256);
            k += 2;
            f[k++] = random.nextInt(30) == 0 ? random.nextInt(256) : 0;
        }
        return f;
    }

    private void look() {
        int what = some(4);
        int k = some(8);
        switch (random.nextInt(6)) {
            case 0:
                int c = 1 + random.nextInt(3);
                same("event(" + c + ", " + k + ", " + what + ")", x.event(c, k, what), m.event(c, k, what));
                break;
            case 1:
                int n = some(Math.max(1, Math.min(m.count(1), 200)));
                same("taken(" + n + ", " + what + ")", x.taken(n, what), m.taken(n, what));
                break;
            case 2:
                int p = some(10);
                same("view(" + p + ", " + what + ")", x.view(p, what), m.view(p, what));
                break;
            case 3:
                int i = some(Math.max(1, m.flying()));
                int b = some(35);
                same("at(" + i + ", " + b + ")", x.at(i, b), m.at(i, b));
                break;
            case 4:
                same("flying()", x.flying(), m.flying());
                break;
            default:
                int of = some(12);
                same("count(" + of + ")", x.count(of), m.count(of));
        }
    }

    /** Mostly 0 .. below - 1, now and then a number beside or far from these. */
    private int some(int below) {
        int n = random.nextInt(30);
        if (n == 0) {
            return below;
        }
        return n <= Wire.EDGES.length ? Wire.EDGES[n - 1] : random.nextInt(below);
    }

    private void same(String what, int got, int want) {
        call++;
        due.is("run " + run + ", call " + call + ": " + what, got, want);
    }

    private void same(String what, boolean got, boolean want) {
        call++;
        due.is("run " + run + ", call " + call + ": " + what, got, want);
    }
}
