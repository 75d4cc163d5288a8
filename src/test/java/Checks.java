import java.math.BigInteger;

/**
 * What the tests share: counting wrong answers, and rows seen as BigIntegers through the public face alone.
 * To see all limbs they make more than 512 calls on an object: the document leaves those free, this class
 * does not count calls, so they answer as the first ones do.
 */
final class Checks {
    private static int wrong = 0;

    private Checks() {
    }

    interface Call {
        void run();
    }

    static void due(String call, Object got, Object want) {
        if (!want.equals(got)) {
            wrong++;
            System.out.println(call + " answered " + got + ", due is " + want);
        }
    }

    /** The call throws what is due, of just that class, and leaves every row as it was. */
    static void dueThrows(String name, LimbRows x, Class<? extends RuntimeException> want, Call call) {
        String before = picture(x);
        Object got = "nothing";
        try {
            call.run();
        } catch (RuntimeException e) {
            got = e.getClass();
        }
        due(name + " throws", got, want);
        due(name + " leaves the rows", picture(x), before);
    }

    static void dueNoRow(String name, LimbRows x, Call call) {
        dueThrows(name, x, IndexOutOfBoundsException.class, call);
    }

    static void dueBadArgument(String name, LimbRows x, Call call) {
        dueThrows(name, x, IllegalArgumentException.class, call);
    }

    /** Every width and every limb of all rows. */
    static String picture(LimbRows x) {
        StringBuilder text = new StringBuilder();
        for (int r = 0; r < 64; r++) {
            text.append(r).append(':');
            for (int k = 0; k < x.width(r); k++) {
                text.append(Integer.toHexString(x.limb(r, k))).append(' ');
            }
        }
        return text.toString();
    }

    static BigInteger number(LimbRows x, int r) {
        int width = x.width(r);
        byte[] bytes = new byte[4 * width];
        for (int k = 0; k < width; k++) {
            int limb = x.limb(r, k);
            for (int b = 0; b < 4; b++) {
                bytes[bytes.length - 1 - 4 * k - b] = (byte) (limb >> 8 * b);
            }
        }
        return new BigInteger(bytes);
    }

    /** Makes a row n limbs wide and puts a number into it, limb by limb. */
    static void give(LimbRows x, int r, int n, BigInteger v) {
        x.widen(r, n);
        for (int k = 0; k < n; k++) {
            x.put(r, k, v.shiftRight(32 * k).intValue());
        }
    }

    /** The number that a row of n limbs keeps of v. */
    static BigInteger kept(BigInteger v, int n) {
        BigInteger low = v.mod(BigInteger.ONE.shiftLeft(32 * n));
        return low.testBit(32 * n - 1) ? low.subtract(BigInteger.ONE.shiftLeft(32 * n)) : low;
    }

    static BigInteger power(int k) {
        return BigInteger.ONE.shiftLeft(k);
    }

    static BigInteger big(long v) {
        return BigInteger.valueOf(v);
    }

    static void finish() {
        System.out.println(wrong == 0 ? "all answers are as due" : wrong + " answers are not as due");
        if (wrong != 0) {
            System.exit(1);
        }
    }
}
