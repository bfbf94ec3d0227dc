/** What tests do with the line: read frames, write into them, and feed whole fragments. */
final class Wire {
    static final int[] EDGES = {-1, -2, Integer.MIN_VALUE, Integer.MAX_VALUE};

    private Wire() {
    }

    /** The check, worked out bit by bit over a text of bits, unlike the class does it. */
    static int check(int[] bytes, int from, int many) {
        boolean[] c = new boolean[16];
        for (int k = from; k < from + many; k++) {
            for (int bit = 0; bit < 8; bit++) {
                c[bit] ^= (bytes[k] >> bit & 1) == 1;
            }
            for (int step = 0; step < 8; step++) {
                boolean out = c[0];
                System.arraycopy(c, 1, c, 0, 15);
                c[15] = false;
                for (int bit = 0; bit < 16; bit++) {
                    c[bit] ^= out && (0xA6BC >> bit & 1) == 1;
                }
            }
        }
        int sum = 0;
        for (int bit = 0; bit < 16; bit++) {
            sum += c[bit] ? 0 : 1 << bit;
        }
        return sum;
    }

    static int[] frame(PointReports x, int i) {
        int[] bytes = new int[300];
        for (int k = 0; k < bytes.length; k++) {
            bytes[k] = x.at(i, k);
            if (bytes[k] == PointReports.BAD) {
                return java.util.Arrays.copyOf(bytes, k);
            }
        }
        return bytes;
    }

    /** What a frame carries behind the segment's first byte. */
    static int[] part(PointReports x, int i) {
        int[] f = frame(x, i);
        int[] part = new int[f[2] - 6];
        for (int k = 0; k < part.length; k++) {
            part[k] = f[10 + k + 1 + (k + 1) / 16 * 2];
        }
        return part;
    }

    /** The fragment in so many frames, from frame i on. */
    static int[] fragment(PointReports x, int i, int frames) {
        int[] all = new int[frames * 20];
        int length = 0;
        for (int n = i; n < i + frames; n++) {
            for (int b : part(x, n)) {
                all[length++] = b;
            }
        }
        return java.util.Arrays.copyOf(all, length);
    }

    /** The same bytes with all checks made right. */
    static int[] sealed(int[] bytes) {
        int[] f = bytes.clone();
        putCheck(f, 0, 8);
        for (int block = 10; block < f.length; block += 18) {
            putCheck(f, block, Math.min(16, f.length - 2 - block));
        }
        return f;
    }

    private static void putCheck(int[] f, int from, int many) {
        int c = check(f, from, many);
        f[from + many] = c & 255;
        f[from + many + 1] = c >> 8;
    }

    /** Makes frame i, which has these bytes, have others: with a poke for each that is not the same. */
    static void rewrite(PointReports x, int i, int[] has, int[] gets) {
        for (int k = 0; k < has.length; k++) {
            if (has[k] != gets[k]) {
                x.poke(i, k, has[k] ^ gets[k]);
            }
        }
    }

    /** Writes one byte of frame i and makes its checks right: the frame's bytes then. */
    static int[] write(PointReports x, int i, int[] has, int k, int b) {
        int[] gets = has.clone();
        gets[k] = b;
        gets = sealed(gets);
        rewrite(x, i, has, gets);
        return gets;
    }

    static boolean inject(PointReports x, int side, int... bytes) {
        for (int b : bytes) {
            x.feed(b);
        }
        return x.inject(side);
    }

    /** Brings frame 0 until nothing is in flight. */
    static void bringAll(PointReports x) {
        int left = 1;
        for (int n = 0; n < 500 && left > 0; n++) {
            left = x.bring(0);
        }
    }

    static void ticks(PointReports x, int many) {
        for (int n = 0; n < many; n++) {
            x.tick();
        }
    }

    /** Changes a point so many times, a tick before each; the values go on from the first. */
    static void changes(PointReports x, int point, int many, int firstValue) {
        for (int n = 0; n < many; n++) {
            x.tick();
            x.change(point, firstValue + n);
        }
    }

    /** Points 0, 1, 2 with the classes 1, 2, 3, and eight events of each. */
    static PointReports eightOfEach() {
        PointReports x = threeClasses();
        for (int n = 0; n < 8; n++) {
            x.tick();
            x.change(0, n);
            x.change(1, n);
            x.change(2, n);
        }
        return x;
    }

    /** Points 0, 1, 2 with the classes 1, 2, 3. */
    static PointReports threeClasses() {
        PointReports x = new PointReports();
        x.kind(0, 1);
        x.kind(1, 2);
        x.kind(2, 3);
        return x;
    }
}
