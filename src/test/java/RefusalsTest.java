/**
 * Every refused call: the exception that the document names, of just that class, the one named first where
 * several fit, and every row as it was.
 */
public final class RefusalsTest {
    private static final int MIN = Integer.MIN_VALUE;
    private static final int MAX = Integer.MAX_VALUE;
    private static final long MOST_DIVISOR = 0x3FFFFFFFFFFFFFFFL;
    private static final int[] NO_ROWS = {-1, 64, 65, MIN, MAX};
    private static final int[] NO_WIDTHS = {0, 257, -1, MIN, MAX};
    private static final int[] NO_SHIFTS = {-1, 8193, MIN, MAX};
    private static final long[] NO_DIVISORS = {0, MOST_DIVISOR + 1, -1, Long.MIN_VALUE, Long.MAX_VALUE};

    private RefusalsTest() {
    }

    public static void main(String[] args) {
        for (int r : NO_ROWS) {
            noSuchRowOfOne(r);
            noSuchRowOfTwo(r);
            noSuchRowOfThree(r);
            noSuchRowIsNamedBeforeWidth(r);
            noSuchRowIsNamedBeforeOwnFactor(r);
            noSuchRowIsNamedBeforeShift(r);
            noSuchRowIsNamedBeforeDivisor(r);
        }
        firstAndLastRowAreThere();
        noSuchWidth();
        noSuchLimbToPut();
        noSuchLimbToPutOnceNarrowed();
        noSuchLimb();
        ownFactorAdded();
        ownFactorSubtracted();
        noSuchShiftLeft();
        noSuchShiftRight();
        noSuchShiftToNearest();
        noSuchDivisor();
        Checks.finish();
    }

    private static void noSuchRowOfOne(int r) {
        Checks.about("Terms: IndexOutOfBoundsException, wherever it is named: there is no such row");
        Checks.dueNoRow("widen(" + r + ", 2)", x -> x.widen(r, 2));
        Checks.dueNoRow("width(" + r + ")", x -> x.width(r));
        Checks.dueNoRow("set(" + r + ", 1)", x -> x.set(r, 1));
        Checks.dueNoRow("put(" + r + ", 0, 1)", x -> x.put(r, 0, 1));
        Checks.dueNoRow("limb(" + r + ", 0)", x -> x.limb(r, 0));
        Checks.dueNoRow("times(" + r + ", 2)", x -> x.times(r, 2));
        Checks.dueNoRow("negate(" + r + ")", x -> x.negate(r));
        Checks.dueNoRow("left(" + r + ", 1)", x -> x.left(r, 1));
        Checks.dueNoRow("right(" + r + ", 1)", x -> x.right(r, 1));
        Checks.dueNoRow("nearest(" + r + ", 1)", x -> x.nearest(r, 1));
        Checks.dueNoRow("divide(" + r + ", 2)", x -> x.divide(r, 2));
        Checks.dueNoRow("zeros(" + r + ")", x -> x.zeros(r));
        Checks.dueNoRow("length(" + r + ")", x -> x.length(r));
        Checks.dueNoRow("sign(" + r + ")", x -> x.sign(r));
    }

    private static void noSuchRowOfTwo(int r) {
        Checks.about("Terms: IndexOutOfBoundsException, wherever it is named: there is no such row, either one");
        Checks.dueNoRow("copy(" + r + ", 1)", x -> x.copy(r, 1));
        Checks.dueNoRow("copy(1, " + r + ")", x -> x.copy(1, r));
        Checks.dueNoRow("copy(" + r + ", " + r + ")", x -> x.copy(r, r));
        Checks.dueNoRow("add(" + r + ", 1)", x -> x.add(r, 1));
        Checks.dueNoRow("add(1, " + r + ")", x -> x.add(1, r));
        Checks.dueNoRow("add(" + r + ", " + r + ")", x -> x.add(r, r));
        Checks.dueNoRow("subtract(" + r + ", 1)", x -> x.subtract(r, 1));
        Checks.dueNoRow("subtract(1, " + r + ")", x -> x.subtract(1, r));
        Checks.dueNoRow("subtract(" + r + ", " + r + ")", x -> x.subtract(r, r));
        Checks.dueNoRow("compare(" + r + ", 1)", x -> x.compare(r, 1));
        Checks.dueNoRow("compare(1, " + r + ")", x -> x.compare(1, r));
        Checks.dueNoRow("compare(" + r + ", " + r + ")", x -> x.compare(r, r));
    }

    private static void noSuchRowOfThree(int r) {
        Checks.about("Terms: IndexOutOfBoundsException, wherever it is named: there is no such row, any of three");
        Checks.dueNoRow("addProduct(" + r + ", 1, 2)", x -> x.addProduct(r, 1, 2));
        Checks.dueNoRow("addProduct(0, " + r + ", 2)", x -> x.addProduct(0, r, 2));
        Checks.dueNoRow("addProduct(0, 1, " + r + ")", x -> x.addProduct(0, 1, r));
        Checks.dueNoRow("subtractProduct(" + r + ", 1, 2)", x -> x.subtractProduct(r, 1, 2));
        Checks.dueNoRow("subtractProduct(0, " + r + ", 2)", x -> x.subtractProduct(0, r, 2));
        Checks.dueNoRow("subtractProduct(0, 1, " + r + ")", x -> x.subtractProduct(0, 1, r));
    }

    private static void noSuchRowIsNamedBeforeWidth(int r) {
        Checks.about("Terms: of several exceptions that fit the one named first is thrown; 2 widen");
        for (int n : NO_WIDTHS) {
            Checks.dueNoRow("widen(" + r + ", " + n + ")", x -> x.widen(r, n));
        }
    }

    private static void noSuchRowIsNamedBeforeOwnFactor(int r) {
        Checks.about("Terms: of several exceptions that fit the one named first is thrown; 10 addProduct");
        Checks.dueNoRow("addProduct(1, 1, " + r + ")", x -> x.addProduct(1, 1, r));
        Checks.dueNoRow("addProduct(1, " + r + ", 1)", x -> x.addProduct(1, r, 1));
        Checks.dueNoRow("addProduct(" + r + ", " + r + ", 1)", x -> x.addProduct(r, r, 1));
        Checks.dueNoRow("addProduct(" + r + ", 1, " + r + ")", x -> x.addProduct(r, 1, r));
        Checks.dueNoRow("addProduct(" + r + " thrice)", x -> x.addProduct(r, r, r));
        Checks.about("Terms: of several exceptions that fit the one named first is thrown; 11 subtractProduct");
        Checks.dueNoRow("subtractProduct(1, 1, " + r + ")", x -> x.subtractProduct(1, 1, r));
        Checks.dueNoRow("subtractProduct(1, " + r + ", 1)", x -> x.subtractProduct(1, r, 1));
        Checks.dueNoRow("subtractProduct(" + r + ", " + r + ", 1)", x -> x.subtractProduct(r, r, 1));
        Checks.dueNoRow("subtractProduct(" + r + ", 1, " + r + ")", x -> x.subtractProduct(r, 1, r));
        Checks.dueNoRow("subtractProduct(" + r + " thrice)", x -> x.subtractProduct(r, r, r));
    }

    private static void noSuchRowIsNamedBeforeShift(int r) {
        for (int k : NO_SHIFTS) {
            Checks.about("Terms: of several exceptions that fit the one named first is thrown; 14 left");
            Checks.dueNoRow("left(" + r + ", " + k + ")", x -> x.left(r, k));
            Checks.about("Terms: of several exceptions that fit the one named first is thrown; 15 right");
            Checks.dueNoRow("right(" + r + ", " + k + ")", x -> x.right(r, k));
            Checks.about("Terms: of several exceptions that fit the one named first is thrown; 16 nearest");
            Checks.dueNoRow("nearest(" + r + ", " + k + ")", x -> x.nearest(r, k));
        }
    }

    private static void noSuchRowIsNamedBeforeDivisor(int r) {
        Checks.about("Terms: of several exceptions that fit the one named first is thrown; 17 divide");
        for (long d : NO_DIVISORS) {
            Checks.dueNoRow("divide(" + r + ", " + d + ")", x -> x.divide(r, d));
        }
    }

    /** What is refused ends just at rows 0 and 63: the calls on these answer. */
    private static void firstAndLastRowAreThere() {
        Checks.about("Terms: rows 0 .. 63");
        for (int r : new int[] {0, 63}) {
            int other = 63 - r;
            dueAnswers("the calls on row " + r, x -> x.widen(r, 2) | x.set(r, 1) | x.negate(r));
            dueAnswers("the calls on row " + r, x -> x.width(r) + x.put(r, 0, 1) + x.limb(r, 0) + x.times(r, 2));
            dueAnswers("the calls on row " + r, x -> x.left(r, 1) + x.right(r, 1) + x.nearest(r, 1) + x.divide(r, 2));
            dueAnswers("the calls on row " + r, x -> x.zeros(r) + x.length(r) + x.sign(r));
            dueAnswers("the calls on rows " + r + " and " + other, x -> x.copy(r, other));
            dueAnswers("the calls on rows " + r + " and " + other, x -> x.add(r, other) + x.subtract(r, other));
            dueAnswers("the calls on rows " + r + " and " + other, x -> x.compare(r, other));
            dueAnswers("addProduct(" + r + ", " + other + ", 1)", x -> x.addProduct(r, other, 1));
            dueAnswers("addProduct(" + r + ", 1, " + other + ")", x -> x.addProduct(r, 1, other));
            dueAnswers("subtractProduct(" + r + ", " + other + ", 1)", x -> x.subtractProduct(r, other, 1));
            dueAnswers("subtractProduct(" + r + ", 1, " + other + ")", x -> x.subtractProduct(r, 1, other));
        }
    }

    private static void dueAnswers(String name, Checks.Call call) {
        String got = "throws nothing";
        try {
            call.on(Checks.filled());
        } catch (RuntimeException e) {
            got = "throws " + e;
        }
        Checks.due(name, got, "throws nothing");
    }

    private static void noSuchWidth() {
        Checks.about("2 widen: IllegalArgumentException: n is not 1 .. 256");
        for (int n : NO_WIDTHS) {
            for (int r : new int[] {0, 1, 63}) {
                Checks.dueBadArgument("widen(" + r + ", " + n + ")", x -> x.widen(r, n));
            }
        }
    }

    private static void noSuchLimbToPut() {
        Checks.about("5 put: IndexOutOfBoundsException (also when there is no such limb)");
        for (int k : new int[] {-1, 3, 4, 255, 256, MIN, MAX}) {
            Checks.dueNoRow("put(2, " + k + ", 8)", x -> x.put(2, k, 8));
        }
        for (int k : new int[] {-1, 1, 256, MIN, MAX}) {
            Checks.dueNoRow("put(0, " + k + ", 8)", x -> x.put(0, k, 8));
        }
        for (int k : new int[] {-1, 256, 257, MIN, MAX}) {
            Checks.dueNoRow("put(63, " + k + ", 8)", x -> x.put(63, k, 8));
        }
    }

    /** The limbs that were cut off must not come back by a put that is refused. */
    private static void noSuchLimbToPutOnceNarrowed() {
        Checks.about("5 put: IndexOutOfBoundsException (also when there is no such limb), once narrowed");
        LimbRows x = Checks.filled();
        x.widen(63, 2);
        String got = "nothing";
        try {
            x.put(63, 2, 8);
        } catch (RuntimeException e) {
            got = e.getClass().getName();
        }
        Checks.due("put(63, 2, 8) throws", got, "java.lang.IndexOutOfBoundsException");
        Checks.dueLimbs("put(63, 2, 8)", x, 63, -1, -1);
        x.widen(63, 3);
        Checks.dueLimbs("put(63, 2, 8), widen(63, 3)", x, 63, -1, -1, -1);
    }

    private static void noSuchLimb() {
        Checks.about("6 limb: IndexOutOfBoundsException (also when k is less than 0)");
        for (int k : new int[] {-1, -2, -32, MIN}) {
            for (int r : new int[] {0, 2, 63}) {
                Checks.dueNoRow("limb(" + r + ", " + k + ")", x -> x.limb(r, k));
            }
        }
    }

    private static void ownFactorAdded() {
        Checks.about("10 addProduct: IllegalArgumentException: it is itself a or b");
        for (int r : new int[] {0, 1, 63}) {
            Checks.dueBadArgument("addProduct(" + r + ", " + r + ", 2)", x -> x.addProduct(r, r, 2));
            Checks.dueBadArgument("addProduct(" + r + ", 2, " + r + ")", x -> x.addProduct(r, 2, r));
            Checks.dueBadArgument("addProduct(" + r + " thrice)", x -> x.addProduct(r, r, r));
        }
    }

    private static void ownFactorSubtracted() {
        Checks.about("11 subtractProduct: IllegalArgumentException: it is itself a or b");
        for (int r : new int[] {0, 1, 63}) {
            Checks.dueBadArgument("subtractProduct(" + r + ", " + r + ", 2)", x -> x.subtractProduct(r, r, 2));
            Checks.dueBadArgument("subtractProduct(" + r + ", 2, " + r + ")", x -> x.subtractProduct(r, 2, r));
            Checks.dueBadArgument("subtractProduct(" + r + " thrice)", x -> x.subtractProduct(r, r, r));
        }
    }

    private static void noSuchShiftLeft() {
        Checks.about("14 left: IllegalArgumentException: k is not 0 .. 8192");
        for (int k : NO_SHIFTS) {
            Checks.dueBadArgument("left(0, " + k + ")", x -> x.left(0, k));
            Checks.dueBadArgument("left(63, " + k + ")", x -> x.left(63, k));
        }
    }

    private static void noSuchShiftRight() {
        Checks.about("15 right: IllegalArgumentException: k is not 0 .. 8192");
        for (int k : NO_SHIFTS) {
            Checks.dueBadArgument("right(0, " + k + ")", x -> x.right(0, k));
            Checks.dueBadArgument("right(63, " + k + ")", x -> x.right(63, k));
        }
    }

    private static void noSuchShiftToNearest() {
        Checks.about("16 nearest: IllegalArgumentException: k is not 0 .. 8192");
        for (int k : NO_SHIFTS) {
            Checks.dueBadArgument("nearest(0, " + k + ")", x -> x.nearest(0, k));
            Checks.dueBadArgument("nearest(63, " + k + ")", x -> x.nearest(63, k));
        }
    }

    private static void noSuchDivisor() {
        Checks.about("17 divide: IllegalArgumentException: d is not 1 .. 2^62 - 1");
        for (long d : NO_DIVISORS) {
            Checks.dueBadArgument("divide(0, " + d + ")", x -> x.divide(0, d));
            Checks.dueBadArgument("divide(63, " + d + ")", x -> x.divide(63, d));
        }
    }
}
