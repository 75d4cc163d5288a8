import java.math.BigInteger;
import java.util.Arrays;

/** Each promise by itself, swept over widths and numbers beside BigInteger; the refused calls are RefusalsTest's. */
public final class PromisesTest {
    private static final BigInteger ONE = BigInteger.ONE;

    private PromisesTest() {
    }

    public static void main(String[] args) {
        newObject();
        widen();
        width();
        set();
        put();
        limb();
        copy();
        add();
        subtract();
        addProduct();
        subtractProduct();
        products();
        times();
        negate();
        left();
        right();
        nearest();
        divide();
        zeros();
        length();
        sign();
        compare();
        Checks.finish();
    }

    private static LimbRows with(int n, BigInteger v) {
        return Checks.with(n, v);
    }

    private static LimbRows with(int n, long v) {
        return Checks.with(n, Checks.big(v));
    }

    private static void newObject() {
        LimbRows x = new LimbRows();
        for (int r = 0; r < 64; r++) {
            Checks.due("new: width(" + r + ")", x.width(r), 1);
            Checks.due("new: limb(" + r + ", 0)", x.limb(r, 0), 0);
            Checks.due("new: sign(" + r + ")", x.sign(r), 0);
        }
        LimbRows y = new LimbRows();
        x.set(5, 9);
        Checks.due("two objects: limb(5, 0)", y.limb(5, 0), 0);
        Checks.due("two rows: limb(4, 0)", x.limb(4, 0), 0);
    }

    private static void widen() {
        widenOne(1, -1, 256, true);
        widenOne(2, 5, 1, true);
        widenOne(2, -5, 1, true);
        widenOne(2, 0x7FFFFFFFL, 1, true);
        widenOne(2, 0x80000000L, 1, false);
        widenOne(2, -0x80000000L, 1, true);
        widenOne(2, -0x80000001L, 1, false);
        widenOne(2, 0x100000000L, 1, false);
        widenOne(2, Long.MIN_VALUE, 2, true);
        widenOne(3, Long.MIN_VALUE, 2, true);
        widenOne(256, Long.MAX_VALUE, 2, true);
        widenOne(256, Long.MAX_VALUE, 1, false);
        narrowAndWiden();
        middleLimbsCount();
    }

    private static void widenOne(int from, long v, int n, boolean fits) {
        String call = v + " in " + from + " limbs: widen(0, " + n + ")";
        LimbRows x = with(from, v);
        Checks.due(call, x.widen(0, n), fits);
        Checks.due(call + " then width(0)", x.width(0), n);
        Checks.dueNumber(call, x, 0, Checks.kept(Checks.big(v), n));
    }

    private static void narrowAndWiden() {
        LimbRows x = with(4, Checks.power(100).add(Checks.big(77)));
        Checks.due("narrow: widen(0, 2)", x.widen(0, 2), false);
        Checks.dueNumber("narrow: widen(0, 2)", x, 0, 77);
        Checks.due("and wide again: widen(0, 4)", x.widen(0, 4), true);
        Checks.dueNumber("and wide again: widen(0, 4)", x, 0, 77);
    }

    private static void middleLimbsCount() {
        LimbRows x = with(4, Checks.power(64));
        Checks.due("2^64 in 4 limbs: widen(0, 2)", x.widen(0, 2), false);
        LimbRows y = with(4, Checks.power(64).negate());
        Checks.due("-2^64 in 4 limbs: widen(0, 2)", y.widen(0, 2), false);
        Checks.dueNumber("-2^64 in 4 limbs: widen(0, 2)", y, 0, 0);
    }

    private static void width() {
        LimbRows x = Checks.filled();
        Checks.due("width(0)", x.width(0), 1);
        Checks.due("width(2)", x.width(2), 3);
        Checks.due("width(63)", x.width(63), 256);
        Checks.due("width(3)", x.width(3), 2);
        Checks.due("width(4)", x.width(4), 1);
    }

    private static void set() {
        long[] values = {0, 1, -1, 0x7FFFFFFFL, 0x80000000L, -0x80000000L, -0x80000001L, 0x100000000L,
            0xFFFFFFFFL, Long.MAX_VALUE, Long.MIN_VALUE};
        for (int n : new int[] {1, 2, 3, 256}) {
            for (long v : values) {
                String call = n + " limbs: set(0, " + v + ")";
                LimbRows x = with(n, Checks.power(32 * n - 2).negate().subtract(ONE));
                Checks.due(call, x.set(0, v), n > 1 || v >= Integer.MIN_VALUE && v <= Integer.MAX_VALUE);
                Checks.dueNumber(call, x, 0, Checks.kept(Checks.big(v), n));
                Checks.due(call + " then width(0)", x.width(0), n);
            }
        }
    }

    private static void put() {
        LimbRows x = with(3, 5);
        Checks.due("put(0, 2, MIN)", x.put(0, 2, Integer.MIN_VALUE), 0);
        Checks.dueNumber("put(0, 2, MIN)", x, 0, Checks.power(95).negate().add(Checks.big(5)));
        Checks.due("put(0, 0, -1)", x.put(0, 0, -1), 5);
        Checks.due("put(0, 2, 1)", x.put(0, 2, 1), Integer.MIN_VALUE);
        Checks.dueNumber("put(0, 2, 1)", x, 0, Checks.power(64).add(Checks.big(0xFFFFFFFFL)));
        Checks.due("put(63, 0, 8)", x.put(63, 0, 8), 0);
        Checks.due("put(63, 0, 9)", x.put(63, 0, 9), 8);
        LimbRows y = Checks.filled();
        Checks.due("put(63, 255, 7)", y.put(63, 255, 7), Integer.MAX_VALUE);
    }

    private static void limb() {
        LimbRows x = with(2, 0x123456789ABCDEF0L);
        Checks.due("limb(0, 0)", x.limb(0, 0), 0x9ABCDEF0);
        Checks.due("limb(0, 1)", x.limb(0, 1), 0x12345678);
        for (int k : new int[] {2, 3, 255, 256, 257, Integer.MAX_VALUE}) {
            Checks.due("behind: limb(0, " + k + ")", x.limb(0, k), 0);
        }
        x.set(0, -2);
        for (int k : new int[] {1, 2, 3, 255, 256, 257, Integer.MAX_VALUE}) {
            Checks.due("-2: limb(0, " + k + ")", x.limb(0, k), -1);
        }
        LimbRows y = Checks.filled();
        y.widen(63, 1);
        y.set(63, 3);
        Checks.due("narrowed: limb(63, 1)", y.limb(63, 1), 0);
    }

    private static void copy() {
        copyOne(2, -9, 4, true);
        copyOne(2, 9, 1, true);
        copyOne(2, 0x80000000L, 1, false);
        copyOne(2, -0x80000000L, 1, true);
        copyOne(3, Long.MIN_VALUE, 2, true);
        copyOne(256, -1, 1, true);
        LimbRows x = Checks.filled();
        Checks.due("itself: copy(2, 2)", x.copy(2, 2), true);
        Checks.dueNumber("itself: copy(2, 2)", x, 2, Checks.power(95).negate());
        x.copy(3, 0);
        x.set(0, 4);
        Checks.dueNumber("the copy stands by itself", x, 3, -7);
    }

    private static void copyOne(int from, long v, int n, boolean fits) {
        String call = v + " of " + from + " limbs in " + n + ": copy(1, 0)";
        LimbRows x = with(from, v);
        Checks.give(x, 1, n, Checks.power(32 * n - 2).add(Checks.big(3)));
        Checks.due(call, x.copy(1, 0), fits);
        Checks.dueNumber(call, x, 1, Checks.kept(Checks.big(v), n));
        Checks.dueNumber(call + ": the source", x, 0, v);
        Checks.due(call + " then width(1)", x.width(1), n);
    }

    private static void add() {
        addOne(1, Integer.MAX_VALUE, 1, 1);
        addOne(1, Integer.MIN_VALUE, 1, -1);
        addOne(2, 0xFFFFFFFFL, 1, 1);
        addOne(2, 5, 1, -5);
        addOne(4, 0, 1, -1);
        addOne(1, 3, 4, Long.MAX_VALUE);
        addOne(256, -1, 1, 1);
        addOne(2, Long.MIN_VALUE, 2, Long.MIN_VALUE);
        LimbRows x = with(1, 0x40000000);
        Checks.due("itself: add(0, 0)", x.add(0, 0), -1);
        Checks.dueNumber("itself: add(0, 0)", x, 0, Integer.MIN_VALUE);
        Checks.due("itself again: add(0, 0)", x.add(0, 0), 0);
    }

    private static void addOne(int n, long v, int m, long w) {
        String call = v + " in " + n + " limbs, " + w + " in " + m + ": add(0, 1)";
        LimbRows x = with(n, v);
        Checks.give(x, 1, m, Checks.big(w));
        BigInteger want = Checks.kept(Checks.big(v).add(Checks.big(w)), n);
        Checks.due(call, x.add(0, 1), want.signum());
        Checks.dueNumber(call, x, 0, want);
        Checks.dueNumber(call + ": the other", x, 1, w);
    }

    private static void subtract() {
        subtractOne(1, Integer.MIN_VALUE, 1, 1);
        subtractOne(1, 0, 1, Integer.MIN_VALUE);
        subtractOne(2, 0x100000000L, 1, 1);
        subtractOne(2, 5, 1, 5);
        subtractOne(4, 0, 1, -1);
        subtractOne(4, 0, 1, 1);
        subtractOne(1, 3, 4, Long.MAX_VALUE);
        subtractOne(256, 0, 1, 1);
        LimbRows x = with(3, -77);
        Checks.due("itself: subtract(0, 0)", x.subtract(0, 0), 0);
        Checks.dueNumber("itself: subtract(0, 0)", x, 0, 0);
    }

    private static void subtractOne(int n, long v, int m, long w) {
        String call = v + " in " + n + " limbs, " + w + " in " + m + ": subtract(0, 1)";
        LimbRows x = with(n, v);
        Checks.give(x, 1, m, Checks.big(w));
        BigInteger want = Checks.kept(Checks.big(v).subtract(Checks.big(w)), n);
        Checks.due(call, x.subtract(0, 1), want.signum());
        Checks.dueNumber(call, x, 0, want);
        Checks.dueNumber(call + ": the other", x, 1, w);
    }

    private static void addProduct() {
        LimbRows x = with(2, 10);
        x.set(1, 6);
        x.set(2, -7);
        Checks.due("10 and 6 * -7: addProduct(0, 1, 2)", x.addProduct(0, 1, 2), -1);
        Checks.dueNumber("10 and 6 * -7: addProduct(0, 1, 2)", x, 0, -32);
        Checks.due("-32 and 6 * 6: addProduct(0, 1, 1)", x.addProduct(0, 1, 1), 1);
        Checks.dueNumber("-32 and 6 * 6: addProduct(0, 1, 1)", x, 0, 4);
        x.set(1, 2);
        x.set(2, -2);
        Checks.due("4 and 2 * -2: addProduct(0, 1, 2)", x.addProduct(0, 1, 2), 0);
    }

    private static void subtractProduct() {
        LimbRows x = with(2, 10);
        x.set(1, 6);
        x.set(2, 7);
        Checks.due("10 less 6 * 7: subtractProduct(0, 1, 2)", x.subtractProduct(0, 1, 2), -1);
        Checks.dueNumber("10 less 6 * 7: subtractProduct(0, 1, 2)", x, 0, -32);
        x.set(2, -6);
        Checks.due("-32 less 6 * -6: subtractProduct(0, 1, 2)", x.subtractProduct(0, 1, 2), 1);
        Checks.dueNumber("-32 less 6 * -6: subtractProduct(0, 1, 2)", x, 0, 4);
        x.set(1, 2);
        Checks.due("4 less 2 * 2: subtractProduct(0, 1, 1)", x.subtractProduct(0, 1, 1), 0);
        Checks.dueNumber("4 less 2 * 2: subtractProduct(0, 1, 1)", x, 0, 0);
    }

    /** Least, greatest and plain factors of all widths against a row that is narrower, as wide, and wider. */
    private static void products() {
        int[] widths = {1, 2, 3, 5, 256};
        for (int n : widths) {
            for (int p : widths) {
                for (int q : widths) {
                    for (BigInteger a : edges(p)) {
                        for (BigInteger b : edges(q)) {
                            productBothWays(n, p, a, q, b);
                        }
                    }
                }
            }
        }
    }

    private static BigInteger[] edges(int n) {
        BigInteger half = Checks.power(32 * n - 1);
        return new BigInteger[] {half.negate(), half.subtract(ONE), ONE.negate()};
    }

    private static void productBothWays(int n, int p, BigInteger a, int q, BigInteger b) {
        String call = n + " limbs, " + p + " of sign " + a.signum() + " by " + q + " of sign " + b.signum();
        BigInteger most = Checks.power(32 * n - 1).subtract(ONE);
        LimbRows x = withFactors(n, most, p, a, q, b);
        BigInteger up = Checks.kept(most.add(a.multiply(b)), n);
        Checks.due(call + ": addProduct(0, 1, 2)", x.addProduct(0, 1, 2), up.signum());
        Checks.dueNumber(call + ": addProduct(0, 1, 2)", x, 0, up);
        dueFactorsAsBefore(call + ": addProduct(0, 1, 2)", x);
        LimbRows y = withFactors(n, ONE, p, a, q, b);
        BigInteger down = Checks.kept(ONE.subtract(a.multiply(b)), n);
        Checks.due(call + ": subtractProduct(0, 1, 2)", y.subtractProduct(0, 1, 2), down.signum());
        Checks.dueNumber(call + ": subtractProduct(0, 1, 2)", y, 0, down);
        dueFactorsAsBefore(call + ": subtractProduct(0, 1, 2)", y);
    }

    /** The factors stand in rows 1 and 2, and once more in rows 3 and 4, where no call touches them. */
    private static LimbRows withFactors(int n, BigInteger v, int p, BigInteger a, int q, BigInteger b) {
        LimbRows x = with(n, v);
        Checks.give(x, 1, p, a);
        Checks.give(x, 2, q, b);
        Checks.give(x, 3, p, a);
        Checks.give(x, 4, q, b);
        return x;
    }

    private static void dueFactorsAsBefore(String call, LimbRows x) {
        Checks.due(call + " then compare(1, 3)", x.compare(1, 3), 0);
        Checks.due(call + " then compare(2, 4)", x.compare(2, 4), 0);
        Checks.due(call + " then width(1)", x.width(1), x.width(3));
        Checks.due(call + " then width(2)", x.width(2), x.width(4));
    }

    private static void times() {
        long[] factors = {0, 1, -1, 2, 0xFFFFFFFFL, 0x100000000L, -0x100000000L, 0x80000000L, Long.MAX_VALUE,
            Long.MIN_VALUE, Long.MIN_VALUE + 1, 0x123456789ABCDEFL};
        for (int n : new int[] {1, 2, 3, 4, 256}) {
            for (long v : factors) {
                timesOne(n, ONE, v);
                timesOne(n, ONE.negate(), v);
                timesOne(n, BigInteger.ZERO, v);
                timesOne(n, Checks.power(32 * n - 1).negate(), v);
                timesOne(n, Checks.power(32 * n - 1).subtract(ONE), v);
            }
        }
    }

    private static void timesOne(int n, BigInteger a, long v) {
        String call = n + " limbs, " + a.toString(16) + ": times(0, " + v + ")";
        LimbRows x = with(n, a);
        BigInteger want = Checks.kept(a.multiply(Checks.big(v)), n);
        Checks.due(call, x.times(0, v), want.signum());
        Checks.dueNumber(call, x, 0, want);
    }

    private static void negate() {
        for (int n : new int[] {1, 2, 3, 256}) {
            BigInteger least = Checks.power(32 * n - 1).negate();
            negateOne(n, BigInteger.ZERO, true);
            negateOne(n, ONE, true);
            negateOne(n, ONE.negate(), true);
            negateOne(n, least, false);
            negateOne(n, least.add(ONE), true);
            negateOne(n, least.not(), true);
        }
        negateOne(2, Checks.power(32), true);
        negateOne(2, Checks.power(32).negate(), true);
    }

    private static void negateOne(int n, BigInteger a, boolean fits) {
        String call = n + " limbs, " + a.toString(16) + ": negate(0)";
        LimbRows x = with(n, a);
        Checks.due(call, x.negate(0), fits);
        Checks.dueNumber(call, x, 0, Checks.kept(a.negate(), n));
    }

    private static void left() {
        for (int n : new int[] {1, 2, 3, 256}) {
            for (BigInteger a : samples(n)) {
                for (int k : shifts(n)) {
                    String call = n + " limbs, " + a.toString(16) + ": left(0, " + k + ")";
                    LimbRows x = with(n, a);
                    BigInteger want = Checks.kept(a.shiftLeft(k), n);
                    Checks.due(call, x.left(0, k), want.signum());
                    Checks.dueNumber(call, x, 0, want);
                }
            }
        }
    }

    private static void right() {
        for (int n : new int[] {1, 2, 3, 256}) {
            for (BigInteger a : samples(n)) {
                for (int k : shifts(n)) {
                    String call = n + " limbs, " + a.toString(16) + ": right(0, " + k + ")";
                    LimbRows x = with(n, a);
                    BigInteger want = a.shiftRight(k);
                    Checks.due(call, x.right(0, k), want.signum());
                    Checks.dueNumber(call, x, 0, want);
                }
            }
        }
    }

    /** At the full width none of them takes more than 200 limbs to put, so that an object's 512 calls are enough. */
    private static BigInteger[] samples(int n) {
        BigInteger half = Checks.power(32 * n - 1);
        return new BigInteger[] {BigInteger.ZERO, ONE, ONE.negate(), Checks.big(0x6789ABCD), Checks.big(-0x6789ABCD),
            half.negate(), half.negate().add(ONE), half.subtract(ONE), half.shiftRight(1),
            Checks.power(24 * n).divide(Checks.big(3)), Checks.power(24 * n).divide(Checks.big(-3)),
            half.subtract(Checks.power(16 * n))};
    }

    private static int[] shifts(int n) {
        int[] all = {0, 1, 2, 31, 32, 33, 63, 64, 65, 32 * n - 33, 32 * n - 32, 32 * n - 2, 32 * n - 1, 32 * n,
            32 * n + 1, 8159, 8160, 8161, 8191, 8192};
        return Arrays.stream(all).filter(k -> k >= 0 && k <= 8192).toArray();
    }

    private static void nearest() {
        nearestPlain(5, 1, 2);
        nearestPlain(7, 1, 4);
        nearestPlain(-5, 1, -2);
        nearestPlain(-7, 1, -4);
        nearestPlain(-1, 1, 0);
        nearestPlain(1, 1, 0);
        nearestPlain(3, 1, 2);
        nearestPlain(-3, 1, -2);
        nearestPlain(5, 2, 1);
        nearestPlain(6, 2, 2);
        nearestPlain(7, 2, 2);
        nearestPlain(-5, 2, -1);
        nearestPlain(-6, 2, -2);
        nearestPlain(-7, 2, -2);
        nearestPlain(9, 0, 9);
        nearestPlain(-9, 0, -9);
        nearestPlain(Integer.MIN_VALUE, 32, 0);
        nearestPlain(Integer.MIN_VALUE, 31, -1);
        nearestPlain(Integer.MAX_VALUE, 31, 1);
        nearestPlain(Integer.MAX_VALUE, 32, 0);
        nearestPlain(Integer.MAX_VALUE, 1, 0x40000000);
        nearestPlain(-1, 8192, 0);
        nearestPlain(Integer.MIN_VALUE, 33, 0);
        for (int n : new int[] {1, 2, 3, 256}) {
            for (BigInteger a : samples(n)) {
                for (int k : shifts(n)) {
                    nearestOne(n, a, k, rounded(a, k));
                }
            }
        }
    }

    private static void nearestPlain(long v, int k, long want) {
        nearestOne(1, Checks.big(v), k, Checks.big(want));
        nearestOne(3, Checks.big(v), k, Checks.big(want));
    }

    private static void nearestOne(int n, BigInteger a, int k, BigInteger want) {
        String call = n + " limbs, " + a.toString(16) + ": nearest(0, " + k + ")";
        LimbRows x = with(n, a);
        Checks.due(call, x.nearest(0, k), want.signum());
        Checks.dueNumber(call, x, 0, want);
    }

    private static BigInteger rounded(BigInteger a, int k) {
        BigInteger[] parts = {a.shiftRight(k), a.mod(Checks.power(k))};
        int side = parts[1].shiftLeft(1).compareTo(Checks.power(k));
        return side > 0 || side == 0 && parts[0].testBit(0) ? parts[0].add(ONE) : parts[0];
    }

    private static void divide() {
        long most = (1L << 62) - 1;
        dividePlain(7, 2, 3, 1);
        dividePlain(-7, 2, -4, 1);
        dividePlain(-8, 2, -4, 0);
        dividePlain(-1, most, -1, most - 1);
        dividePlain(0, 5, 0, 0);
        dividePlain(-9, 1, -9, 0);
        for (int n : new int[] {1, 2, 3, 256}) {
            for (BigInteger a : samples(n)) {
                for (long d : new long[] {1, 2, 3, 10, 0x7FFFFFFFL, 0x80000000L, 0xFFFFFFFFL, 0x100000000L,
                    0x100000001L, 1L << 61, most - 1, most}) {
                    divideOne(n, a, d);
                }
            }
        }
    }

    private static void dividePlain(long v, long d, long quotient, long rest) {
        String call = v + ": divide(0, " + d + ")";
        LimbRows x = with(2, v);
        Checks.due(call, x.divide(0, d), rest);
        Checks.dueNumber(call, x, 0, quotient);
    }

    private static void divideOne(int n, BigInteger a, long d) {
        String call = n + " limbs, " + a.toString(16) + ": divide(0, " + d + ")";
        LimbRows x = with(n, a);
        BigInteger rest = a.mod(Checks.big(d));
        Checks.due(call, x.divide(0, d), rest.longValueExact());
        Checks.dueNumber(call, x, 0, a.subtract(rest).divide(Checks.big(d)));
    }

    private static void zeros() {
        for (int n : new int[] {1, 2, 3, 256}) {
            Checks.due(n + " limbs, 0: zeros(0)", with(n, 0).zeros(0), 32 * n);
            for (int k = 0; k < 32 * n; k += n == 256 ? 31 : 1) {
                Checks.due(n + " limbs, -2^" + k + ": zeros(0)", with(n, Checks.power(k).negate()).zeros(0), k);
            }
            Checks.due(n + " limbs, -1: zeros(0)", with(n, -1).zeros(0), 0);
            Checks.due(n + " limbs, 40: zeros(0)", with(n, 40).zeros(0), 3);
        }
        LimbRows narrowed = with(2, 0x700000000L);
        narrowed.widen(0, 1);
        Checks.due("cut to 0: zeros(0)", narrowed.zeros(0), 32);
    }

    private static void length() {
        for (int n : new int[] {1, 2, 3, 256}) {
            Checks.due(n + " limbs, 0: length(0)", with(n, 0).length(0), 0);
            Checks.due(n + " limbs, -1: length(0)", with(n, -1).length(0), 0);
            for (int k = 0; k < 32 * n; k += n == 256 ? 31 : 1) {
                BigInteger power = Checks.power(k);
                Checks.due(n + " limbs, 2^" + k + " - 1: length(0)", with(n, power.subtract(ONE)).length(0), k);
                Checks.due(n + " limbs, -2^" + k + ": length(0)", with(n, power.negate()).length(0), k);
                if (k < 32 * n - 1) {
                    Checks.due(n + " limbs, 2^" + k + ": length(0)", with(n, power).length(0), k + 1);
                    Checks.due(n + " limbs, -2^" + k + " - 1: length(0)", with(n, power.not()).length(0), k + 1);
                }
            }
        }
    }

    private static void sign() {
        for (int n : new int[] {1, 2, 3, 256}) {
            for (BigInteger a : samples(n)) {
                Checks.due(n + " limbs, " + a.toString(16) + ": sign(0)", with(n, a).sign(0), a.signum());
            }
        }
        Checks.due("2^32 in 2 limbs: sign(0)", with(2, 0x100000000L).sign(0), 1);
        Checks.due("2^31 in 2 limbs: sign(0)", with(2, 0x80000000L).sign(0), 1);
    }

    private static void compare() {
        int[] widths = {1, 2, 3, 256};
        for (int n : widths) {
            for (int m : widths) {
                for (BigInteger a : samples(n)) {
                    for (BigInteger b : samples(m)) {
                        LimbRows x = with(n, a);
                        Checks.give(x, 1, m, b);
                        String call = a.toString(16) + " in " + n + " limbs, " + b.toString(16) + " in " + m;
                        Checks.due(call + ": compare(0, 1)", x.compare(0, 1), a.compareTo(b));
                        Checks.due(call + ": compare(1, 0)", x.compare(1, 0), b.compareTo(a));
                    }
                }
            }
        }
        LimbRows y = Checks.filled();
        Checks.due("itself: compare(2, 2)", y.compare(2, 2), 0);
    }
}
