import java.math.BigInteger;
import java.util.Arrays;

/**
 * What the tests share: counting wrong answers, and rows seen through the public face alone.
 * An object is promised 512 calls, so the helpers spare them and no test makes more on one object.
 */
final class Checks {
    private static int wrong = 0;
    private static String sentence = "";

    private Checks() {
    }

    interface Call {
        Object on(LimbRows x);
    }

    /** Names the sentence of the document that the answers which follow are due by. */
    static void about(String words) {
        sentence = "[" + words + "] ";
    }

    static void due(String call, Object got, Object want) {
        if (!want.equals(got)) {
            wrong++;
            System.out.println(sentence + call + " answered " + got + ", due is " + want);
        }
    }

    static void dueNoRow(String name, Call call) {
        dueThrows(name, IndexOutOfBoundsException.class, call);
    }

    static void dueBadArgument(String name, Call call) {
        dueThrows(name, IllegalArgumentException.class, call);
    }

    /** The call throws what is due, of just that class, and leaves every row as it is in an object without it. */
    private static void dueThrows(String name, Class<? extends RuntimeException> want, Call call) {
        LimbRows x = filled();
        Object got = "nothing";
        try {
            call.on(x);
        } catch (RuntimeException e) {
            got = e.getClass();
        }
        due(name + " throws", got, want);
        due(name + " leaves the rows", picture(x), picture(filled()));
    }

    /** No row is 0 and the rows differ in width, so that any change of one shows. */
    static LimbRows filled() {
        LimbRows x = new LimbRows();
        for (int r = 4; r < 62; r++) {
            x.set(r, 1000 + r);
        }
        give(x, 0, -7);
        give(x, 1, 5, 0x40000000);
        give(x, 2, 0, 0, Integer.MIN_VALUE);
        give(x, 3, -1, 9);
        give(x, 62, 12345, 0, 0, 1);
        give(x, 63, wide(-1, -1, Integer.MAX_VALUE));
        return x;
    }

    /** Every width and every limb of all rows. */
    private static String picture(LimbRows x) {
        StringBuilder text = new StringBuilder();
        for (int r = 0; r < 64; r++) {
            int width = x.width(r);
            text.append(r).append(':');
            for (int k = 0; k < width; k++) {
                text.append(Integer.toHexString(x.limb(r, k))).append(' ');
            }
        }
        return text.toString();
    }

    /** The limbs of a row of full width: the lowest, the 254 between, the highest. */
    static int[] wide(int low, int middle, int high) {
        int[] limbs = new int[256];
        Arrays.fill(limbs, middle);
        limbs[0] = low;
        limbs[255] = high;
        return limbs;
    }

    /** Gives a row just these limbs, the lowest first; limbs like the middle one's sign need no call each. */
    static void give(LimbRows x, int r, int... limbs) {
        int like = limbs[limbs.length / 2] >> 31;
        x.widen(r, limbs.length);
        x.set(r, like);
        for (int k = 0; k < limbs.length; k++) {
            if (limbs[k] != like) {
                x.put(r, k, limbs[k]);
            }
        }
    }

    static void give(LimbRows x, int r, int n, BigInteger v) {
        int[] limbs = new int[n];
        for (int k = 0; k < n; k++) {
            limbs[k] = v.shiftRight(32 * k).intValue();
        }
        give(x, r, limbs);
    }

    /** An object whose row 0 has just these limbs. */
    static LimbRows with(int... limbs) {
        LimbRows x = new LimbRows();
        give(x, 0, limbs);
        return x;
    }

    static LimbRows with(int n, BigInteger v) {
        LimbRows x = new LimbRows();
        give(x, 0, n, v);
        return x;
    }

    /** The row has just these limbs, the lowest first, and no more. */
    static void dueLimbs(String call, LimbRows x, int r, int... want) {
        due(call + " then width(" + r + ")", x.width(r), want.length);
        for (int k = 0; k < want.length; k++) {
            due(call + " then limb(" + r + ", " + k + ")", x.limb(r, k), want[k]);
        }
    }

    static void dueNumber(String call, LimbRows x, int r, BigInteger want) {
        due(call + " then the number", number(x, r, x.width(r)), want);
    }

    static void dueNumber(String call, LimbRows x, int r, long want) {
        dueNumber(call, x, r, big(want));
    }

    static BigInteger number(LimbRows x, int r, int width) {
        byte[] bytes = new byte[4 * width];
        for (int k = 0; k < width; k++) {
            int limb = x.limb(r, k);
            for (int b = 0; b < 4; b++) {
                bytes[bytes.length - 1 - 4 * k - b] = (byte) (limb >> 8 * b);
            }
        }
        return new BigInteger(bytes);
    }

    /** The number that a row of n limbs keeps of v. */
    static BigInteger kept(BigInteger v, int n) {
        BigInteger low = v.mod(power(32 * n));
        return low.testBit(32 * n - 1) ? low.subtract(power(32 * n)) : low;
    }

    static BigInteger power(int k) {
        return BigInteger.ONE.shiftLeft(k);
    }

    static BigInteger big(long v) {
        return BigInteger.valueOf(v);
    }

    static void finish() {
        System.out.println(wrong == 0 ? "all answers are as due" : wrong + " answers are not as due");
        if (wrong != 0) {
            System.exit(1);
        }
    }
}
