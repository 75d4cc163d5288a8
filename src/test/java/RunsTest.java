import java.math.BigInteger;
import java.util.Random;

/** Runs of 512 mixed calls, right and wrong ones, beside a model in BigInteger; the seeds are fixed. */
public final class RunsTest {
    private static final int RUNS = 3000;
    private static final int CALLS = 512;
    private static final int NARROW = 8;
    private static final long MOST_DIVISOR = (1L << 62) - 1;
    private static final String[] NAMES = {"widen", "width", "set", "put", "limb", "copy", "add", "subtract",
        "addProduct", "subtractProduct", "times", "negate", "left", "right", "nearest", "divide", "zeros", "length",
        "sign", "compare"};

    private final Random random;
    private final int rowsUsed;
    private final int widest;
    private final BigInteger[] numbers = new BigInteger[64];
    private final int[] widths = new int[64];
    private final LimbRows x = new LimbRows();
    private int callsLeft = CALLS;

    private RunsTest(int run) {
        random = new Random(run);
        rowsUsed = run % 4 == 0 ? 64 : 2 + random.nextInt(6);
        widest = run % 3 == 0 ? 256 : 1 + random.nextInt(8);
        for (int r = 0; r < 64; r++) {
            numbers[r] = BigInteger.ZERO;
            widths[r] = 1;
        }
    }

    public static void main(String[] args) {
        for (int run = 0; run < RUNS; run++) {
            new RunsTest(run).play(run);
        }
        Checks.finish();
    }

    /** Some runs look at each call's rows, some seldom do and so come to more calls, some end with a whole row. */
    private void play(int run) {
        int lookEach = 1 + run % 7;
        int atTheEnd = run % 2 == 0 ? 0 : 260;
        int named = 0;
        for (int call = 1; callsLeft > atTheEnd; call++) {
            int a = row();
            int b = row();
            String text = mixedCall(run, call, a, b);
            named = noRow(a) ? named : a;
            if (call % lookEach == 0) {
                look(text, named);
                look(text, noRow(b) ? 63 : b);
            }
        }
        readWhole("run " + run + ", at its end", named);
    }

    private String mixedCall(int run, int call, int a, int b) {
        int which = random.nextInt(NAMES.length);
        int c = row();
        int k = count(which);
        long v = value();
        String text = "run " + run + " call " + call + ": " + NAMES[which] + " of " + a + ", " + b + ", " + c
            + ", " + k + ", " + v;
        callsLeft--;
        Object got;
        try {
            got = asked(which, a, b, c, k, v);
        } catch (RuntimeException e) {
            got = e.getClass().getSimpleName();
        }
        Checks.due(text, got, expected(which, a, b, c, k, v));
        return text;
    }

    /** A narrow row is read whole, a wide one at both ends and between. */
    private void look(String text, int r) {
        if (widths[r] <= NARROW) {
            readWhole(text, r);
            return;
        }
        readLimb(text, r, 0);
        readLimb(text, r, random.nextInt(widths[r]));
        readLimb(text, r, random.nextInt(widths[r]));
        readLimb(text, r, widths[r] - 1);
        readLimb(text, r, widths[r]);
    }

    private void readWhole(String text, int r) {
        if (callsLeft > 0) {
            callsLeft--;
            Checks.due(text + " then width(" + r + ")", x.width(r), widths[r]);
        }
        for (int k = 0; k < widths[r]; k++) {
            readLimb(text, r, k);
        }
    }

    private void readLimb(String text, int r, int k) {
        if (callsLeft > 0) {
            callsLeft--;
            Checks.due(text + " then limb(" + r + ", " + k + ")", x.limb(r, k),
                numbers[r].shiftRight(32 * k).intValue());
        }
    }

    private int row() {
        return random.nextInt(60) == 0 ? (random.nextBoolean() ? -1 : 64) : random.nextInt(rowsUsed);
    }

    private int count(int which) {
        boolean shift = which >= 12 && which <= 14;
        int most = shift ? 32 * (random.nextInt(4) == 0 ? 256 : widest) : widest;
        switch (random.nextInt(12)) {
            case 0:
                return shift ? 32 * random.nextInt(widest + 1) : most;
            case 1:
                return random.nextInt(3) - 1;
            case 2:
                return shift ? 8191 + random.nextInt(3) : 255 + random.nextInt(3);
            default:
                return shift && random.nextBoolean() ? random.nextInt(70) : random.nextInt(most + 1);
        }
    }

    private long value() {
        long v = random.nextLong() >> random.nextInt(64);
        switch (random.nextInt(6)) {
            case 0:
                return (1L << random.nextInt(64)) - random.nextInt(3) + 1;
            case 1:
                return -(1L << random.nextInt(64)) - random.nextInt(3) + 1;
            case 2:
                return Math.abs(v);
            case 3:
                return random.nextInt(12) - 2;
            default:
                return v;
        }
    }

    private Object asked(int which, int a, int b, int c, int k, long v) {
        switch (NAMES[which]) {
            case "widen": return x.widen(a, k);
            case "width": return x.width(a);
            case "set": return x.set(a, v);
            case "put": return x.put(a, k, (int) v);
            case "limb": return x.limb(a, k);
            case "copy": return x.copy(a, b);
            case "add": return x.add(a, b);
            case "subtract": return x.subtract(a, b);
            case "addProduct": return x.addProduct(a, b, c);
            case "subtractProduct": return x.subtractProduct(a, b, c);
            case "times": return x.times(a, v);
            case "negate": return x.negate(a);
            case "left": return x.left(a, k);
            case "right": return x.right(a, k);
            case "nearest": return x.nearest(a, k);
            case "divide": return x.divide(a, v);
            case "zeros": return x.zeros(a);
            case "length": return x.length(a);
            case "sign": return x.sign(a);
            default: return x.compare(a, b);
        }
    }

    private Object expected(int which, int a, int b, int c, int k, long v) {
        String refused = refusal(NAMES[which], a, b, c, k, v);
        if (refused != null) {
            return refused;
        }
        switch (NAMES[which]) {
            case "widen": widths[a] = k; return keep(a, numbers[a]);
            case "width": return widths[a];
            case "set": return keep(a, BigInteger.valueOf(v));
            case "put": return putLimb(a, k, (int) v);
            case "limb": return numbers[a].shiftRight(32 * k).intValue();
            case "copy": return keep(a, numbers[b]);
            case "add": return keepSign(a, numbers[a].add(numbers[b]));
            case "subtract": return keepSign(a, numbers[a].subtract(numbers[b]));
            case "addProduct": return keepSign(a, numbers[a].add(numbers[b].multiply(numbers[c])));
            case "subtractProduct": return keepSign(a, numbers[a].subtract(numbers[b].multiply(numbers[c])));
            case "times": return keepSign(a, numbers[a].multiply(BigInteger.valueOf(v)));
            case "negate": return keep(a, numbers[a].negate());
            case "left": return keepSign(a, numbers[a].shiftLeft(k));
            case "right": return keepSign(a, floor(numbers[a], Checks.power(k)));
            case "nearest": return keepSign(a, rounded(numbers[a], k));
            case "divide": return divided(a, BigInteger.valueOf(v));
            case "zeros": return numbers[a].signum() == 0 ? 32 * widths[a] : numbers[a].getLowestSetBit();
            case "length": return numbers[a].bitLength();
            case "sign": return numbers[a].signum();
            default: return numbers[a].compareTo(numbers[b]);
        }
    }

    private String refusal(String name, int a, int b, int c, int k, long v) {
        boolean two = name.equals("copy") || name.equals("add") || name.equals("subtract") || name.equals("compare");
        boolean three = name.endsWith("Product");
        boolean shift = name.equals("left") || name.equals("right") || name.equals("nearest");
        if (noRow(a) || (two || three) && noRow(b) || three && noRow(c)
            || name.equals("put") && (k < 0 || k >= widths[a]) || name.equals("limb") && k < 0) {
            return "IndexOutOfBoundsException";
        }
        if (three && (a == b || a == c) || shift && (k < 0 || k > 8192) || name.equals("widen") && (k < 1 || k > 256)
            || name.equals("divide") && (v < 1 || v > MOST_DIVISOR)) {
            return "IllegalArgumentException";
        }
        return null;
    }

    private static boolean noRow(int r) {
        return r < 0 || r > 63;
    }

    private boolean keep(int r, BigInteger v) {
        numbers[r] = Checks.kept(v, widths[r]);
        return numbers[r].equals(v);
    }

    private int keepSign(int r, BigInteger v) {
        keep(r, v);
        return numbers[r].signum();
    }

    private int putLimb(int r, int k, int v) {
        int old = numbers[r].shiftRight(32 * k).intValue();
        long change = (v & 0xFFFFFFFFL) - (old & 0xFFFFFFFFL);
        keep(r, numbers[r].add(BigInteger.valueOf(change).shiftLeft(32 * k)));
        return old;
    }

    private static BigInteger floor(BigInteger v, BigInteger d) {
        return v.subtract(v.mod(d)).divide(d);
    }

    private static BigInteger rounded(BigInteger v, int k) {
        BigInteger d = Checks.power(k);
        BigInteger low = floor(v, d);
        int side = v.mod(d).shiftLeft(1).compareTo(d);
        return side > 0 || side == 0 && low.testBit(0) ? low.add(BigInteger.ONE) : low;
    }

    private long divided(int r, BigInteger d) {
        long rest = numbers[r].mod(d).longValueExact();
        numbers[r] = floor(numbers[r], d);
        return rest;
    }
}
