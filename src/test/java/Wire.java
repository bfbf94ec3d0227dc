/** What tests do with the line: read frames, write into them, and feed whole fragments. */
final class Wire {
    static final int[] EDGES = {-1, -2, Integer.MIN_VALUE, Integer.MAX_VALUE};

    private Wire() {
    }

    /** The check, worked out bit by bit over a text of bits, unlike the class does it. */
    static int check(int[] bytes, int from, int many) {
        boolean[] c = new boolean[16];
        for (int k = from; k < from + many; k++) {
            for (int bit = 0; bit < 8; bit++) {
                c[bit] ^= (bytes[k] >> bit & 1) == 1;
            }
            for (int step = 0; step < 8; step++) {
                boolean out = c[0];
                System.arraycopy(c, 1, c, 0, 15);
                c[15] = false;
                for (int bit = 0; bit < 16; bit++) {
                    c[bit] ^= out && (0xA6BC >> bit & 1) == 1;
                }
            }
        }
        int sum = 0;
        for (int bit = 0; bit < 16; bit++) {
            sum += c[bit] ? 0 : 1 << bit;
        }
        return sum;
    }

    static int[] frame(PointReports x, int i) {
        int length = 0;
        while (length < 300 && x.at(i, length) != PointReports.BAD) {
            length++;
        }
        int[] bytes = new int[length];
        for (int k = 0; k < length; k++) {
            bytes[k] = x.at(i, k);
        }
        return bytes;
    }

    /** What a frame carries behind the segment's first byte. */
    static int[] part(PointReports x, int i) {
        int[] f = frame(x, i);
        int[] part = new int[f[2] - 6];
        for (int k = 0; k < part.length; k++) {
            part[k] = f[10 + k + 1 + (k + 1) / 16 * 2];
        }
        return part;
    }

    /** The fragment in so many frames, from frame i on. */
    static int[] fragment(PointReports x, int i, int frames) {
        int[] all = new int[frames * 20];
        int length = 0;
        for (int n = i; n < i + frames; n++) {
            for (int b : part(x, n)) {
                all[length++] = b;
            }
        }
        return java.util.Arrays.copyOf(all, length);
    }

    static void write(PointReports x, int i, int k, int b) {
        if (x.at(i, k) != b) {
            x.poke(i, k, x.at(i, k) ^ b);
        }
    }

    /** Makes all checks of a frame right again after it was written into. */
    static void seal(PointReports x, int i) {
        int[] f = frame(x, i);
        writeCheck(x, i, f, 0, 8);
        for (int block = 10; block < f.length; block += 18) {
            writeCheck(x, i, f, block, Math.min(16, f.length - 2 - block));
        }
    }

    private static void writeCheck(PointReports x, int i, int[] f, int from, int many) {
        int c = check(f, from, many);
        write(x, i, from + many, c & 255);
        write(x, i, from + many + 1, c >> 8);
    }

    static boolean inject(PointReports x, int side, int... bytes) {
        for (int b : bytes) {
            x.feed(b);
        }
        return x.inject(side);
    }

    /** Brings frame 0 until nothing is in flight. */
    static void bringAll(PointReports x) {
        for (int n = 0; n < 500 && x.flying() > 0; n++) {
            x.bring(0);
        }
    }

    static void loseAll(PointReports x) {
        for (int n = 0; n < 500 && x.flying() > 0; n++) {
            x.lose(0);
        }
    }

    static void ticks(PointReports x, int many) {
        for (int n = 0; n < many; n++) {
            x.tick();
        }
    }

    /** Changes a point so many times, a tick before each; the values go on from the first. */
    static void changes(PointReports x, int point, int many, int firstValue) {
        for (int n = 0; n < many; n++) {
            x.tick();
            x.change(point, firstValue + n);
        }
    }

    /** Points 0, 1, 2 with the classes 1, 2, 3. */
    static PointReports threeClasses() {
        PointReports x = new PointReports();
        x.kind(0, 1);
        x.kind(1, 2);
        x.kind(2, 3);
        return x;
    }
}
