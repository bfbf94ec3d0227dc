/** A frame in flight that a test writes anew, with right checks, each time before it comes. It stays. */
final class Forged {
    private final PointReports x;
    private final int i;
    private int[] bytes;

    Forged(PointReports x, int i) {
        this.x = x;
        this.i = i;
        bytes = Wire.frame(x, i);
    }

    /** Writes byte k of the frame. */
    Forged with(int k, int b) {
        int[] gets = bytes.clone();
        gets[k] = b;
        write(gets);
        return this;
    }

    /** Writes what the segment has behind its first byte: as many bytes as it had. */
    Forged part(int... part) {
        int[] gets = bytes.clone();
        for (int k = 0; k < part.length; k++) {
            gets[11 + k + (k + 1) / 16 * 2] = part[k];
        }
        write(gets);
        return this;
    }

    void comes() {
        x.twice(i);
    }

    /** Comes with this as its segment's first byte. */
    void comes(int first) {
        with(10, first);
        comes();
    }

    private void write(int[] gets) {
        int[] right = Wire.sealed(gets);
        Wire.rewrite(x, i, bytes, right);
        bytes = right;
    }
}
