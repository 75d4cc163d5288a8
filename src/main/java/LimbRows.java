import java.util.Arrays;

/** Whole numbers in 64 rows of 32-bit limbs, two's complement; what does not fit is cut off above. */
public final class LimbRows {
    private static final int ROWS = 64;
    private static final int MOST_LIMBS = 256;
    private static final int MOST_SHIFT = 8192;
    private static final long MOST_DIVISOR = (1L << 62) - 1;
    private static final long LOW_HALF = 0xFFFFFFFFL;

    private final Row[] rows;

    public LimbRows() {
        rows = new Row[ROWS];
        for (int r = 0; r < ROWS; r++) {
            rows[r] = new Row();
        }
    }

    public boolean widen(int r, int n) throws IndexOutOfBoundsException, IllegalArgumentException {
        Row row = rowAt(r);
        if (n < 1 || n > MOST_LIMBS) {
            throw new IllegalArgumentException("a width is 1 to 256 limbs");
        }
        return row.changeWidth(n);
    }

    public int width(int r) throws IndexOutOfBoundsException {
        return rowAt(r).width;
    }

    public boolean set(int r, long v) throws IndexOutOfBoundsException {
        return rowAt(r).keepLong(v);
    }

    public int put(int r, int k, int v) throws IndexOutOfBoundsException {
        Row row = rowAt(r);
        if (k < 0 || k >= row.width) {
            throw new IndexOutOfBoundsException("no such limb");
        }
        int old = row.limbs[k];
        row.limbs[k] = v;
        return old;
    }

    public int limb(int r, int k) throws IndexOutOfBoundsException {
        Row row = rowAt(r);
        if (k < 0) {
            throw new IndexOutOfBoundsException("no such limb");
        }
        return row.limbAt(k);
    }

    public boolean copy(int to, int a) throws IndexOutOfBoundsException {
        Row target = rowAt(to);
        Row source = rowAt(a);
        return target.keepRow(source);
    }

    public int add(int to, int a) throws IndexOutOfBoundsException {
        Row target = rowAt(to);
        Row other = rowAt(a);
        target.addFrom(0, other);
        return target.signum();
    }

    public int subtract(int to, int a) throws IndexOutOfBoundsException {
        Row target = rowAt(to);
        Row other = rowAt(a);
        target.subtractFrom(0, other);
        return target.signum();
    }

    public int addProduct(int to, int a, int b) throws IndexOutOfBoundsException, IllegalArgumentException {
        Row target = rowAt(to);
        Row first = rowAt(a);
        Row second = rowAt(b);
        refuseOwnFactor(to, a, b);
        target.addProductOf(first, second);
        return target.signum();
    }

    public int subtractProduct(int to, int a, int b) throws IndexOutOfBoundsException, IllegalArgumentException {
        Row target = rowAt(to);
        Row first = rowAt(a);
        Row second = rowAt(b);
        refuseOwnFactor(to, a, b);
        target.subtractProductOf(first, second);
        return target.signum();
    }

    public int times(int r, long v) throws IndexOutOfBoundsException {
        Row row = rowAt(r);
        row.multiplyBy(v);
        return row.signum();
    }

    public boolean negate(int r) throws IndexOutOfBoundsException {
        return rowAt(r).turnRound();
    }

    public int left(int r, int k) throws IndexOutOfBoundsException, IllegalArgumentException {
        Row row = rowAt(r);
        refuseShift(k);
        row.shiftUp(k);
        return row.signum();
    }

    public int right(int r, int k) throws IndexOutOfBoundsException, IllegalArgumentException {
        Row row = rowAt(r);
        refuseShift(k);
        row.shiftDown(k);
        return row.signum();
    }

    public int nearest(int r, int k) throws IndexOutOfBoundsException, IllegalArgumentException {
        Row row = rowAt(r);
        refuseShift(k);
        boolean up = row.roundsUp(k);
        row.shiftDown(k);
        if (up) {
            row.increment();
        }
        return row.signum();
    }

    public long divide(int r, long d) throws IndexOutOfBoundsException, IllegalArgumentException {
        Row row = rowAt(r);
        if (d < 1 || d > MOST_DIVISOR) {
            throw new IllegalArgumentException("a divisor is 1 to 2^62 - 1");
        }
        return row.divideBy(d);
    }

    public int zeros(int r) throws IndexOutOfBoundsException {
        return rowAt(r).trailingZeros();
    }

    public int length(int r) throws IndexOutOfBoundsException {
        return rowAt(r).bitLength();
    }

    public int sign(int r) throws IndexOutOfBoundsException {
        return rowAt(r).signum();
    }

    public int compare(int a, int b) throws IndexOutOfBoundsException {
        Row first = rowAt(a);
        Row second = rowAt(b);
        return first.order(second);
    }

    private Row rowAt(int r) {
        if (r < 0 || r >= ROWS) {
            throw new IndexOutOfBoundsException("no such row");
        }
        return rows[r];
    }

    private static void refuseOwnFactor(int to, int a, int b) {
        if (to == a || to == b) {
            throw new IllegalArgumentException("a row can't take a product of itself");
        }
    }

    private static void refuseShift(int k) {
        if (k < 0 || k > MOST_SHIFT) {
            throw new IllegalArgumentException("a shift is 0 to 8192 bits");
        }
    }

    /** One number; only the lowest {@code width} limbs count, what lies above them is left over. */
    private static final class Row {
        private int[] limbs;
        private int width;

        private Row() {
            limbs = new int[1];
            width = 1;
        }

        private static long unsigned(int limb) {
            return limb & LOW_HALF;
        }

        private boolean isNegative() {
            return limbs[width - 1] < 0;
        }

        /** The number as if it had limbs without end: zeros below, its sign above. */
        private int limbAt(int k) {
            if (k < 0) {
                return 0;
            }
            return k < width ? limbs[k] : limbs[width - 1] >> 31;
        }

        private int bitAt(int k) {
            return limbAt(k >> 5) >>> (k & 31) & 1;
        }

        private boolean fitsIn(int n) {
            int above = limbAt(n - 1) >> 31;
            for (int k = n; k < width; k++) {
                if (limbs[k] != above) {
                    return false;
                }
            }
            return true;
        }

        private boolean changeWidth(int n) {
            boolean fits = fitsIn(n);
            int above = limbAt(width);
            // Grown to the full once, so that a row makes at most one more array in all its life.
            if (n > limbs.length) {
                limbs = Arrays.copyOf(limbs, MOST_LIMBS);
            }
            for (int k = width; k < n; k++) {
                limbs[k] = above;
            }
            width = n;
            return fits;
        }

        private boolean keepLong(long v) {
            long rest = v;
            for (int k = 0; k < width; k++) {
                limbs[k] = (int) rest;
                rest >>= 32;
            }
            return width > 1 || v == (int) v;
        }

        private boolean keepRow(Row source) {
            boolean fits = source.fitsIn(width);
            for (int k = 0; k < width; k++) {
                limbs[k] = source.limbAt(k);
            }
            return fits;
        }

        /** Adds 2^(32 start) times the other number. */
        private void addFrom(int start, Row other) {
            addLimbs(start, other, 0);
        }

        /** Takes off 2^(32 start) times the other number. */
        private void subtractFrom(int start, Row other) {
            addLimbs(start, other, -1);
        }

        /** With flip -1 it adds the other's complement and 1, which is the other number turned round. */
        private void addLimbs(int start, Row other, int flip) {
            long carry = flip & 1;
            for (int k = start; k < width; k++) {
                long sum = unsigned(limbs[k]) + unsigned(other.limbAt(k - start) ^ flip) + carry;
                limbs[k] = (int) sum;
                carry = sum >>> 32;
            }
        }

        /** Only the limbs that a's number needs are gone through, as wide rows often hold short numbers. */
        private void addProductOf(Row a, Row b) {
            int needed = a.bitLength() / 32 + 1;
            int used = Math.min(needed, width);
            for (int k = 0; k < used; k++) {
                addMultiple(k, unsigned(a.limbs[k]), b);
            }
            // Those limbs, taken as a number without sign, are 2^(32 needed) too much then.
            if (a.isNegative()) {
                subtractFrom(needed, b);
            }
        }

        /** Adds 2^(32 start) digit b, the digit 0 .. 2^32 - 1: a step's sum just fits 64 bits without sign. */
        private void addMultiple(int start, long digit, Row b) {
            long carry = 0;
            for (int k = start; k < width; k++) {
                long sum = digit * unsigned(b.limbAt(k - start)) + unsigned(limbs[k]) + carry;
                limbs[k] = (int) sum;
                carry = sum >>> 32;
            }
        }

        /** The complement of x is -x - 1, so the complement of (complement of x, and p) is x - p. */
        private void subtractProductOf(Row a, Row b) {
            complement();
            addProductOf(a, b);
            complement();
        }

        private void complement() {
            for (int k = 0; k < width; k++) {
                limbs[k] = ~limbs[k];
            }
        }

        private void increment() {
            for (int k = 0; k < width; k++) {
                limbs[k]++;
                if (limbs[k] != 0) {
                    return;
                }
            }
        }

        /** The carry lies between 0 and v, so it never leaves 64 bits, though parts of its sum may. */
        private void multiplyBy(long v) {
            long low = v & LOW_HALF;
            long high = v >> 32;
            long carry = 0;
            for (int k = 0; k < width; k++) {
                long limb = unsigned(limbs[k]);
                long sum = limb * low + (carry & LOW_HALF);
                limbs[k] = (int) sum;
                carry = limb * high + (carry >> 32) + (sum >>> 32);
            }
        }

        private boolean turnRound() {
            boolean wasNegative = isNegative();
            complement();
            increment();
            // Only the least number has no counterpart: it stays itself.
            return !(wasNegative && isNegative());
        }

        private long pairAt(int k) {
            return unsigned(limbAt(k + 1)) << 32 | unsigned(limbAt(k));
        }

        /** From the top down, as each limb needs lower ones that still stand. */
        private void shiftUp(int bits) {
            int whole = bits >> 5;
            int part = bits & 31;
            for (int k = width - 1; k >= 0; k--) {
                limbs[k] = (int) (pairAt(k - whole - 1) << part >>> 32);
            }
        }

        /** From the bottom up, as each limb needs higher ones that still stand. */
        private void shiftDown(int bits) {
            int whole = bits >> 5;
            int part = bits & 31;
            for (int k = 0; k < width; k++) {
                limbs[k] = (int) (pairAt(k + whole) >>> part);
            }
        }

        /** Whether the whole number nearest to this one over 2^bits is the one above, not the one below. */
        private boolean roundsUp(int bits) {
            if (bits == 0 || bitAt(bits - 1) == 0) {
                return false;
            }
            boolean halfway = trailingZeros() == bits - 1;
            return !halfway || bitAt(bits) == 1;
        }

        /** For x below 0: -x - 1 = q d + s makes x = (-q - 1) d + (d - 1 - s), rounded down as it must be. */
        private long divideBy(long d) {
            if (!isNegative()) {
                return divideLimbs(d);
            }
            complement();
            long rest = divideLimbs(d);
            complement();
            return d - 1 - rest;
        }

        private long divideLimbs(long d) {
            long rest = 0;
            for (int k = width - 1; k >= 0; k--) {
                rest = divideLimb(k, rest, d);
            }
            return rest;
        }

        /** Bit by bit: the rest is less than d < 2^62, so twice it and a bit is still a long. */
        private long divideLimb(int k, long above, long d) {
            long rest = above;
            int quotient = 0;
            for (int bit = 31; bit >= 0; bit--) {
                rest = rest << 1 | (limbs[k] >>> bit & 1);
                quotient <<= 1;
                if (rest >= d) {
                    rest -= d;
                    quotient |= 1;
                }
            }
            limbs[k] = quotient;
            return rest;
        }

        private int trailingZeros() {
            for (int k = 0; k < width; k++) {
                if (limbs[k] != 0) {
                    return 32 * k + Integer.numberOfTrailingZeros(limbs[k]);
                }
            }
            return 32 * width;
        }

        private int bitLength() {
            int above = limbAt(width);
            for (int k = width - 1; k >= 0; k--) {
                if (limbs[k] != above) {
                    return 32 * k + 32 - Integer.numberOfLeadingZeros(limbs[k] ^ above);
                }
            }
            return 0;
        }

        private int signum() {
            if (isNegative()) {
                return -1;
            }
            for (int k = 0; k < width; k++) {
                if (limbs[k] != 0) {
                    return 1;
                }
            }
            return 0;
        }

        private int order(Row other) {
            if (isNegative() != other.isNegative()) {
                return isNegative() ? -1 : 1;
            }
            for (int k = Math.max(width, other.width) - 1; k >= 0; k--) {
                long mine = unsigned(limbAt(k));
                long theirs = unsigned(other.limbAt(k));
                if (mine != theirs) {
                    return mine < theirs ? -1 : 1;
                }
            }
            return 0;
        }
    }
}
