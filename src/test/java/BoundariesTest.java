import java.util.Arrays;

/**
 * Each sentence of the document that names a boundary case has a method here, and the answers due are written
 * out, so that they lean on no other arithmetic. The refused calls are RefusalsTest's.
 */
public final class BoundariesTest {
    private static final int MIN = Integer.MIN_VALUE;
    private static final int MAX = Integer.MAX_VALUE;
    private static final long MOST_DIVISOR = 0x3FFFFFFFFFFFFFFFL;

    private static final int[] LEAST = Checks.wide(0, 0, MIN);
    private static final int[] GREATEST = Checks.wide(-1, -1, MAX);
    private static final int[] ZERO = Checks.wide(0, 0, 0);
    private static final int[] MINUS_ONE = Checks.wide(-1, -1, -1);

    private BoundariesTest() {
    }

    public static void main(String[] args) {
        terms();
        rowsAndLimbs();
        sums();
        products();
        shifts();
        divisions();
        looks();
        Checks.finish();
    }

    private static void terms() {
        lastPromisedCallAnswers();
        lastPromisedCallAnswersBehindRefusedOnes();
        everyWidthIsAllowed();
        limbZeroIsTheLowest();
        leastNumberOfEveryWidth();
        greatestNumberOfEveryWidth();
        justAboveIsKeptAsTheLeast();
        justBelowIsKeptAsTheGreatest();
        multiplesAreLeftAway();
        fitsIfItIsThatItself();
    }

    private static void rowsAndLimbs() {
        newObjectHas64RowsOfOneLimb();
        newObjectsAreApart();
        widenToOneLimb();
        widenToFullWidth();
        widenToTheSameWidth();
        widenToWhatJustFits();
        widenToWhatJustDoesNotFit();
        widenBringsNothingBack();
        setOneLimb();
        setMoreLimbs();
        putTheLastLimb();
        putAnswersWhatItWas();
        limbTheLast();
        limbBehindTheLast();
        copyToWhatJustFits();
        copyToWhatJustDoesNotFit();
        copyToMoreLimbs();
        copyOntoItself();
    }

    private static void sums() {
        addToItself();
        addAnotherWidth();
        addWithCarryThroughAllLimbs();
        subtractFromItself();
        subtractAnotherWidth();
        subtractWithBorrowThroughAllLimbs();
        negateTheLeast();
        negateAllOthers();
    }

    private static void products() {
        addProductOfEqualFactors();
        addProductOfLeastFactors();
        addProductWrapsRound();
        addProductSigns();
        subtractProductOfEqualFactors();
        subtractProductOfLeastFactors();
        subtractProductWrapsRound();
        subtractProductSigns();
        timesNothingAndOne();
        timesMinusOne();
        timesTheLeastLong();
        timesWrapsRound();
    }

    private static void shifts() {
        leftByNothing();
        leftByMost();
        leftToTheLastBitAndBeyond();
        rightByNothing();
        rightByMost();
        rightRoundsDown();
        rightOverLimbs();
        nearestByNothing();
        nearestByMost();
        nearestOfTwoTheEvenOne();
        nearestJustBesideTheHalf();
        nearestCarriesThroughLimbs();
    }

    private static void divisions() {
        divideByOne();
        divideByMost();
        divideBelowNothing();
        divideLeavesNothingToOneLessThanTheDivisor();
        divideFullWidth();
    }

    private static void looks() {
        zerosOfNothing();
        zerosOfTheLeast();
        zerosOverLimbs();
        lengthOfNothingAndMinusOne();
        lengthOfEveryPower();
        signs();
        compareLessEqualGreater();
        compareOverWidths();
        compareWithItself();
    }

    private static int[] limbs(int... them) {
        return them;
    }

    /** On a row 0 of the limbs before, the call gives this answer, and the row has the limbs after then. */
    private static void dueOn(int[] before, String name, Checks.Call call, Object answer, int... after) {
        dueOn(Checks.with(before), text(before) + ": " + name, call, answer, after);
    }

    private static void dueOn(LimbRows x, String name, Checks.Call call, Object answer, int... after) {
        Checks.due(name, call.on(x), answer);
        Checks.dueLimbs(name, x, 0, after);
    }

    /** The highest limb first, at most the two highest and the two lowest. */
    private static String text(int[] limbs) {
        StringBuilder text = new StringBuilder();
        for (int k = limbs.length - 1; k >= 0; k--) {
            if (k < 2 || k > limbs.length - 3) {
                text.append(Integer.toHexString(limbs[k])).append(' ');
            }
        }
        return text.append("in ").append(limbs.length).append(" limbs").toString();
    }

    private static LimbRows with(int[] first, int[] second) {
        LimbRows x = Checks.with(first);
        Checks.give(x, 1, second);
        return x;
    }

    private static LimbRows with(int[] first, int[] second, int[] third) {
        LimbRows x = with(first, second);
        Checks.give(x, 2, third);
        return x;
    }

    private static void dueWiden(int[] before, boolean fits, int... after) {
        dueOn(before, "widen(0, " + after.length + ")", x -> x.widen(0, after.length), fits, after);
    }

    private static void dueSet(int n, long v, boolean fits, int... after) {
        int[] before = new int[n];
        before[n - 1] = 0x55555555;
        dueOn(before, "set(0, " + v + ")", x -> x.set(0, v), fits, after);
    }

    private static void dueCopy(int[] a, boolean fits, int... after) {
        int[] before = new int[after.length];
        before[0] = 0x55555555;
        dueOn(with(before, a), text(a) + ": copy(0, 1)", x -> x.copy(0, 1), fits, after);
    }

    private static void dueAdd(int[] to, int[] a, int sign, int... after) {
        dueOn(with(to, a), text(to) + " and " + text(a) + ": add(0, 1)", x -> x.add(0, 1), sign, after);
    }

    private static void dueSubtract(int[] to, int[] a, int sign, int... after) {
        dueOn(with(to, a), text(to) + " less " + text(a) + ": subtract(0, 1)", x -> x.subtract(0, 1), sign, after);
    }

    private static void dueAddProduct(int[] to, int[] a, int[] b, int sign, int... after) {
        String name = text(to) + " and " + text(a) + " times " + text(b) + ": addProduct(0, 1, 2)";
        dueOn(with(to, a, b), name, x -> x.addProduct(0, 1, 2), sign, after);
    }

    private static void dueSubtractProduct(int[] to, int[] a, int[] b, int sign, int... after) {
        String name = text(to) + " less " + text(a) + " times " + text(b) + ": subtractProduct(0, 1, 2)";
        dueOn(with(to, a, b), name, x -> x.subtractProduct(0, 1, 2), sign, after);
    }

    private static void dueTimes(int[] before, long v, int sign, int... after) {
        dueOn(before, "times(0, " + v + ")", x -> x.times(0, v), sign, after);
    }

    private static void dueNegate(int[] before, boolean fits, int... after) {
        dueOn(before, "negate(0)", x -> x.negate(0), fits, after);
    }

    private static void dueLeft(int[] before, int k, int sign, int... after) {
        dueOn(before, "left(0, " + k + ")", x -> x.left(0, k), sign, after);
    }

    private static void dueRight(int[] before, int k, int sign, int... after) {
        dueOn(before, "right(0, " + k + ")", x -> x.right(0, k), sign, after);
    }

    private static void dueNearest(int[] before, int k, int sign, int... after) {
        dueOn(before, "nearest(0, " + k + ")", x -> x.nearest(0, k), sign, after);
    }

    private static void dueDivide(int[] before, long d, long left, int... after) {
        dueOn(before, "divide(0, " + d + ")", x -> x.divide(0, d), left, after);
    }

    private static void lastPromisedCallAnswers() {
        Checks.about("What it is: an object is used for at most 512 calls");
        LimbRows x = new LimbRows();
        Checks.due("call 1: widen(0, 256)", x.widen(0, 256), true);
        Checks.due("call 2: set(1, -1)", x.set(1, -1), true);
        for (int call = 3; call <= 511; call++) {
            Checks.due("call " + call + ": add(0, 1)", x.add(0, 1), -1);
        }
        Checks.due("call 512: limb(0, 0)", x.limb(0, 0), -509);
    }

    private static void lastPromisedCallAnswersBehindRefusedOnes() {
        Checks.about("What it is: an object is used for at most 512 calls, refused ones among them");
        LimbRows x = new LimbRows();
        for (int call = 1; call <= 511; call++) {
            boolean thrown = false;
            try {
                x.widen(0, 257);
            } catch (IllegalArgumentException e) {
                thrown = true;
            }
            Checks.due("call " + call + ": widen(0, 257) throws", thrown, true);
        }
        Checks.due("call 512: width(0)", x.width(0), 1);
    }

    private static void everyWidthIsAllowed() {
        Checks.about("Terms: rows have a width each, 1 .. 256 limbs");
        LimbRows x = new LimbRows();
        for (int n = 1; n <= 256; n++) {
            Checks.due("widen(0, " + n + ")", x.widen(0, n), true);
            Checks.due("width(0)", x.width(0), n);
        }
    }

    private static void limbZeroIsTheLowest() {
        Checks.about("Terms: limbs of 32 bits, limb 0 the lowest");
        dueSet(2, 0x0000000500000003L, true, 3, 5);
        dueSet(3, 0x80000000FFFFFFFFL, true, -1, MIN, -1);
    }

    private static void leastNumberOfEveryWidth() {
        Checks.about("Terms: with w limbs a row's number is from -2^(32 w - 1)");
        for (int w = 1; w <= 256; w++) {
            int[] least = new int[w];
            least[w - 1] = MIN;
            LimbRows x = Checks.with(least);
            Checks.due(w + " limbs, the least: sign(0)", x.sign(0), -1);
            Checks.due(w + " limbs, the least: length(0)", x.length(0), 32 * w - 1);
            Checks.due(w + " limbs, the least: zeros(0)", x.zeros(0), 32 * w - 1);
            x.set(1, 1);
            Checks.due(w + " limbs, the least less 1: subtract(0, 1)", x.subtract(0, 1), 1);
            Checks.dueLimbs(w + " limbs, the least less 1", x, 0, greatest(w));
        }
    }

    private static void greatestNumberOfEveryWidth() {
        Checks.about("Terms: with w limbs a row's number is up to 2^(32 w - 1) - 1");
        for (int w = 1; w <= 256; w++) {
            LimbRows x = Checks.with(greatest(w));
            Checks.due(w + " limbs, the greatest: sign(0)", x.sign(0), 1);
            Checks.due(w + " limbs, the greatest: length(0)", x.length(0), 32 * w - 1);
            Checks.due(w + " limbs, the greatest: zeros(0)", x.zeros(0), 0);
            x.set(1, 1);
            int[] least = new int[w];
            least[w - 1] = MIN;
            Checks.due(w + " limbs, the greatest and 1: add(0, 1)", x.add(0, 1), -1);
            Checks.dueLimbs(w + " limbs, the greatest and 1", x, 0, least);
        }
    }

    private static int[] greatest(int w) {
        int[] limbs = new int[w];
        Arrays.fill(limbs, -1);
        limbs[w - 1] = MAX;
        return limbs;
    }

    /** 2^31 in a row of one limb, or 2^63 in one of two, by every call that keeps a number. */
    private static void justAboveIsKeptAsTheLeast() {
        Checks.about("Terms: to keep a number that just does not fit above");
        dueWiden(limbs(MIN, 0), false, MIN);
        dueWiden(limbs(0, MIN, 0), false, 0, MIN);
        dueSet(1, 0x80000000L, false, MIN);
        dueCopy(limbs(MIN, 0), false, MIN);
        dueCopy(limbs(0, MIN, 0), false, 0, MIN);
        dueAdd(limbs(MAX), limbs(1), -1, MIN);
        dueAdd(limbs(-1, MAX), limbs(1), -1, 0, MIN);
        dueSubtract(limbs(MAX), limbs(-1), -1, MIN);
        dueSubtract(limbs(-1, MAX), limbs(-1), -1, 0, MIN);
        dueAddProduct(limbs(MAX), limbs(-1), limbs(-1), -1, MIN);
        dueAddProduct(limbs(-1, MAX), limbs(1), limbs(1), -1, 0, MIN);
        dueSubtractProduct(limbs(MAX), limbs(1), limbs(-1), -1, MIN);
        dueSubtractProduct(limbs(-1, MAX), limbs(-1), limbs(1), -1, 0, MIN);
        dueTimes(limbs(0x40000000), 2, -1, MIN);
        dueTimes(limbs(0, 1), 0x80000000L, -1, 0, MIN);
        dueNegate(limbs(MIN), false, MIN);
        dueNegate(limbs(0, MIN), false, 0, MIN);
        dueLeft(limbs(0x40000000), 1, -1, MIN);
        dueLeft(limbs(1, 0), 63, -1, 0, MIN);
    }

    /** -2^31 - 1 in a row of one limb, or -2^63 - 1 in one of two; left only makes even numbers. */
    private static void justBelowIsKeptAsTheGreatest() {
        Checks.about("Terms: to keep a number that just does not fit below");
        dueWiden(limbs(MAX, -1), false, MAX);
        dueWiden(limbs(-1, MAX, -1), false, -1, MAX);
        dueSet(1, -0x80000001L, false, MAX);
        dueCopy(limbs(MAX, -1), false, MAX);
        dueCopy(limbs(-1, MAX, -1), false, -1, MAX);
        dueAdd(limbs(MIN), limbs(-1), 1, MAX);
        dueAdd(limbs(0, MIN), limbs(-1), 1, -1, MAX);
        dueSubtract(limbs(MIN), limbs(1), 1, MAX);
        dueSubtract(limbs(0, MIN), limbs(1), 1, -1, MAX);
        dueAddProduct(limbs(MIN), limbs(1), limbs(-1), 1, MAX);
        dueAddProduct(limbs(0, MIN), limbs(-1), limbs(1), 1, -1, MAX);
        dueSubtractProduct(limbs(MIN), limbs(1), limbs(1), 1, MAX);
        dueSubtractProduct(limbs(0, MIN), limbs(-1), limbs(-1), 1, -1, MAX);
        dueTimes(limbs(-715827883), 3, 1, MAX);
        dueTimes(limbs(715827883), -3, 1, MAX);
        dueLeft(limbs(-0x40000001), 1, 1, MAX - 1);
        dueLeft(limbs(-1, -0x40000001), 1, 1, -2, MAX);
    }

    private static void multiplesAreLeftAway() {
        Checks.about("Terms: to keep: the one of these that differs from it by a multiple of 2^(32 w)");
        dueSet(1, 0x100000000L, false, 0);
        dueSet(1, -0x100000000L, false, 0);
        dueSet(1, 5 * 0x100000000L + 7, false, 7);
        dueSet(1, -5 * 0x100000000L - 7, false, -7);
        dueSet(1, Long.MAX_VALUE, false, -1);
        dueSet(1, Long.MIN_VALUE, false, 0);
        dueWiden(limbs(7, 0, 3), false, 7);
        dueWiden(limbs(7, 9, MIN), false, 7, 9);
        dueCopy(limbs(7, 0, 3), false, 7);
        dueCopy(limbs(-7, 9, -3), false, -7, 9);
        dueCopy(GREATEST, false, -1, -1);
        dueCopy(LEAST, false, 0, 0);
    }

    private static void fitsIfItIsThatItself() {
        Checks.about("Terms: it fits if it is that itself");
        dueSet(1, 0x7FFFFFFFL, true, MAX);
        dueSet(1, -0x80000000L, true, MIN);
        dueWiden(limbs(MAX, 0), true, MAX);
        dueWiden(limbs(MIN, -1), true, MIN);
        dueCopy(limbs(MAX, 0), true, MAX);
        dueCopy(limbs(MIN, -1), true, MIN);
        dueNegate(limbs(MAX), true, MIN + 1);
        dueNegate(limbs(MIN + 1), true, MAX);
    }

    private static void newObjectHas64RowsOfOneLimb() {
        Checks.about("1: 64 rows of one limb, all 0");
        LimbRows x = new LimbRows();
        for (int r = 0; r < 64; r++) {
            Checks.dueLimbs("new", x, r, 0);
            Checks.due("new: sign(" + r + ")", x.sign(r), 0);
            Checks.due("new: limb(" + r + ", 1)", x.limb(r, 1), 0);
        }
    }

    private static void newObjectsAreApart() {
        Checks.about("1: all 0, whatever other objects and rows have");
        LimbRows used = Checks.filled();
        LimbRows x = new LimbRows();
        used.set(9, 77);
        for (int r = 0; r < 64; r++) {
            Checks.dueLimbs("new beside one in use", x, r, 0);
        }
        x.set(5, 9);
        Checks.dueLimbs("set(5, 9)", x, 4, 0);
        Checks.dueLimbs("set(5, 9)", x, 6, 0);
    }

    private static void widenToOneLimb() {
        Checks.about("2 widen: n 1");
        dueWiden(limbs(5), true, 5);
        dueWiden(limbs(5, 0), true, 5);
        dueWiden(limbs(-5, -1, -1), true, -5);
        dueWiden(Checks.wide(9, 0, 0), true, 9);
        dueWiden(Checks.wide(9, 0, 1), false, 9);
        dueWiden(Checks.wide(-9, -1, MAX), false, -9);
        dueWiden(MINUS_ONE, true, -1);
    }

    private static void widenToFullWidth() {
        Checks.about("2 widen: n 256");
        dueWiden(limbs(5), true, Checks.wide(5, 0, 0));
        dueWiden(limbs(-5), true, Checks.wide(-5, -1, -1));
        dueWiden(limbs(MIN), true, Checks.wide(MIN, -1, -1));
        dueWiden(limbs(MAX), true, Checks.wide(MAX, 0, 0));
        dueWiden(limbs(0), true, ZERO);
    }

    private static void widenToTheSameWidth() {
        Checks.about("2 widen: a row keeps its number, n its width");
        dueWiden(limbs(MIN), true, MIN);
        dueWiden(limbs(-1, 2), true, -1, 2);
        dueWiden(LEAST, true, LEAST);
        dueWiden(GREATEST, true, GREATEST);
    }

    private static void widenToWhatJustFits() {
        Checks.about("2 widen: a number that fits in n limbs");
        dueWiden(limbs(-1, MAX, 0), true, -1, MAX);
        dueWiden(limbs(0, MIN, -1), true, 0, MIN);
        dueWiden(limbs(0, MIN, -1, -1), true, 0, MIN, -1);
        dueWiden(limbs(0, 0, 0), true, 0, 0);
    }

    private static void widenToWhatJustDoesNotFit() {
        Checks.about("2 widen: a number that does not fit in n limbs");
        dueWiden(limbs(0, 1), false, 0);
        dueWiden(limbs(0, -1), false, 0);
        dueWiden(limbs(-1, 0), false, -1);
        dueWiden(limbs(5, -1), false, 5);
        dueWiden(limbs(0, 0, 1, 0), false, 0, 0);
        dueWiden(limbs(-1, -1, -2, -1), false, -1, -1);
        dueWiden(limbs(3, 0, 0, 1), false, 3, 0, 0);
    }

    private static void widenBringsNothingBack() {
        Checks.about("2 widen: what did not fit is cut off");
        LimbRows x = Checks.with(3, 4, 5);
        Checks.due("widen(0, 1)", x.widen(0, 1), false);
        Checks.due("widen(0, 3)", x.widen(0, 3), true);
        Checks.dueLimbs("widen(0, 1), widen(0, 3)", x, 0, 3, 0, 0);
        LimbRows y = Checks.with(-3, 4, 5);
        Checks.due("widen(0, 1)", y.widen(0, 1), false);
        Checks.due("widen(0, 256)", y.widen(0, 256), true);
        Checks.dueLimbs("widen(0, 1), widen(0, 256)", y, 0, Checks.wide(-3, -1, -1));
    }

    private static void setOneLimb() {
        Checks.about("4 set: whether it fits, one limb");
        dueSet(1, 0, true, 0);
        dueSet(1, -1, true, -1);
        dueSet(1, 0xFFFFFFFFL, false, -1);
        dueSet(1, 0x7FFFFFFFL, true, MAX);
        dueSet(1, 0x80000000L, false, MIN);
        dueSet(1, -0x80000000L, true, MIN);
        dueSet(1, -0x80000001L, false, MAX);
    }

    private static void setMoreLimbs() {
        Checks.about("4 set: whether it fits, more limbs");
        dueSet(2, Long.MAX_VALUE, true, -1, MAX);
        dueSet(2, Long.MIN_VALUE, true, 0, MIN);
        dueSet(3, Long.MAX_VALUE, true, -1, MAX, 0);
        dueSet(3, Long.MIN_VALUE, true, 0, MIN, -1);
        dueSet(256, -1, true, MINUS_ONE);
        dueSet(256, 0, true, ZERO);
        dueSet(256, 0x80000000L, true, Checks.wide(MIN, 0, 0));
    }

    private static void putTheLastLimb() {
        Checks.about("5 put: the last limb");
        dueOn(limbs(5), "put(0, 0, MIN)", x -> x.put(0, 0, MIN), 5, MIN);
        dueOn(limbs(5, 6, 7), "put(0, 2, -8)", x -> x.put(0, 2, -8), 7, 5, 6, -8);
        dueOn(GREATEST, "put(0, 255, -1)", x -> x.put(0, 255, -1), MAX, MINUS_ONE);
        dueOn(LEAST, "put(0, 255, 0)", x -> x.put(0, 255, 0), MIN, ZERO);
        LimbRows x = Checks.with(5, 6, 7);
        x.put(0, 2, MIN);
        Checks.due("put(0, 2, MIN) then sign(0)", x.sign(0), -1);
        x.put(0, 2, 0);
        Checks.due("put(0, 2, 0) then length(0)", x.length(0), 35);
    }

    private static void putAnswersWhatItWas() {
        Checks.about("5 put: what it was");
        dueOn(limbs(5, -6, 7), "put(0, 0, -1)", x -> x.put(0, 0, -1), 5, -1, -6, 7);
        dueOn(limbs(5, -6, 7), "put(0, 1, MAX)", x -> x.put(0, 1, MAX), -6, 5, MAX, 7);
        dueOn(limbs(5, -6, 7), "put(0, 1, -6)", x -> x.put(0, 1, -6), -6, 5, -6, 7);
    }

    private static void limbTheLast() {
        Checks.about("6 limb: the last limb");
        Checks.due("limb(0, 0)", Checks.with(-3).limb(0, 0), -3);
        Checks.due("limb(0, 2)", Checks.with(1, 2, -3).limb(0, 2), -3);
        Checks.due("limb(0, 255)", Checks.with(LEAST).limb(0, 255), MIN);
        Checks.due("limb(0, 255)", Checks.with(GREATEST).limb(0, 255), MAX);
    }

    private static void limbBehindTheLast() {
        Checks.about("6 limb: behind its last one 0, or -1 if its number is less than 0");
        dueBehind(0, 0);
        dueBehind(0, 5);
        dueBehind(0, -1, 0);
        dueBehind(0, MIN, 1);
        dueBehind(-1, -1);
        dueBehind(-1, MIN);
        dueBehind(-1, 0, MIN);
        dueBehind(-1, 5, -1);
        dueBehind(0, GREATEST);
        dueBehind(-1, LEAST);
        LimbRows x = Checks.with(5, -9, 7);
        x.widen(0, 1);
        Checks.due("narrowed: limb(0, 1)", x.limb(0, 1), 0);
        Checks.due("narrowed: limb(0, 2)", x.limb(0, 2), 0);
    }

    private static void dueBehind(int want, int... limbs) {
        LimbRows x = Checks.with(limbs);
        int n = limbs.length;
        for (int k : new int[] {n, n + 1, 256, 257, 8192, MAX - 1, MAX}) {
            Checks.due(text(limbs) + ": limb(0, " + k + ")", x.limb(0, k), want);
        }
    }

    private static void copyToWhatJustFits() {
        Checks.about("7 copy: whether it fits, it does");
        dueCopy(limbs(MAX, 0, 0), true, MAX);
        dueCopy(limbs(MIN, -1, -1), true, MIN);
        dueCopy(limbs(-1, MAX, 0), true, -1, MAX);
        dueCopy(limbs(0, MIN, -1), true, 0, MIN);
        dueCopy(MINUS_ONE, true, -1);
        dueCopy(LEAST, true, LEAST);
        dueCopy(GREATEST, true, GREATEST);
    }

    private static void copyToWhatJustDoesNotFit() {
        Checks.about("7 copy: whether it fits, it does not");
        dueCopy(limbs(0, 1), false, 0);
        dueCopy(limbs(-1, 0), false, -1);
        dueCopy(limbs(5, -1), false, 5);
        dueCopy(limbs(0, 0, 1, 0), false, 0, 0);
        dueCopy(limbs(-1, -1, -2, -1), false, -1, -1);
    }

    private static void copyToMoreLimbs() {
        Checks.about("7 copy: a row keeps the number of another one, in more limbs");
        dueCopy(limbs(-5), true, -5, -1, -1);
        dueCopy(limbs(5), true, 5, 0, 0);
        dueCopy(limbs(MIN), true, Checks.wide(MIN, -1, -1));
    }

    private static void copyOntoItself() {
        Checks.about("7 copy: of a row onto itself");
        dueOn(limbs(1, 2, MIN), "copy(0, 0)", x -> x.copy(0, 0), true, 1, 2, MIN);
        dueOn(LEAST, "copy(0, 0)", x -> x.copy(0, 0), true, LEAST);
    }

    private static void addToItself() {
        Checks.about("8 add: another one (or itself)");
        dueOn(limbs(0x3FFFFFFF), "add(0, 0)", x -> x.add(0, 0), 1, MAX - 1);
        dueOn(limbs(0x40000000), "add(0, 0)", x -> x.add(0, 0), -1, MIN);
        dueOn(limbs(MAX), "add(0, 0)", x -> x.add(0, 0), -1, -2);
        dueOn(limbs(MIN), "add(0, 0)", x -> x.add(0, 0), 0, 0);
        dueOn(limbs(0), "add(0, 0)", x -> x.add(0, 0), 0, 0);
        dueOn(limbs(-1, 0), "add(0, 0)", x -> x.add(0, 0), 1, -2, 1);
        dueOn(limbs(-1, -1), "add(0, 0)", x -> x.add(0, 0), -1, -2, -1);
        dueOn(LEAST, "add(0, 0)", x -> x.add(0, 0), 0, ZERO);
        dueOn(GREATEST, "add(0, 0)", x -> x.add(0, 0), -1, Checks.wide(-2, -1, -1));
    }

    private static void addAnotherWidth() {
        Checks.about("8 add: numbers of other widths");
        dueAdd(limbs(0, 0, 0), limbs(-1), -1, -1, -1, -1);
        dueAdd(limbs(0, 0, 0), limbs(MIN), -1, MIN, -1, -1);
        dueAdd(limbs(1), limbs(1, 7), 1, 2);
        dueAdd(limbs(-1), limbs(1, MIN), 0, 0);
        dueAdd(limbs(3), GREATEST, 1, 2);
    }

    private static void addWithCarryThroughAllLimbs() {
        Checks.about("8 add: the sign of what it has then, with a carry through all limbs");
        dueAdd(MINUS_ONE, limbs(1), 0, ZERO);
        dueAdd(GREATEST, limbs(1), -1, LEAST);
        dueAdd(LEAST, limbs(-1), 1, GREATEST);
        dueAdd(LEAST, LEAST, 0, ZERO);
        dueAdd(GREATEST, LEAST, -1, MINUS_ONE);
    }

    private static void subtractFromItself() {
        Checks.about("9 subtract: another one (or itself)");
        for (int[] before : new int[][] {{5}, {MIN}, {MAX}, {0}, {0, MIN}, {-1, 0, 5}}) {
            dueOn(before, "subtract(0, 0)", x -> x.subtract(0, 0), 0, new int[before.length]);
        }
        dueOn(LEAST, "subtract(0, 0)", x -> x.subtract(0, 0), 0, ZERO);
        dueOn(GREATEST, "subtract(0, 0)", x -> x.subtract(0, 0), 0, ZERO);
    }

    private static void subtractAnotherWidth() {
        Checks.about("9 subtract: numbers of other widths");
        dueSubtract(limbs(0, 0, 0), limbs(-1), 1, 1, 0, 0);
        dueSubtract(limbs(0, 0, 0), limbs(1), -1, -1, -1, -1);
        dueSubtract(limbs(0, 0, 0), limbs(MIN), 1, MIN, 0, 0);
        dueSubtract(limbs(3), limbs(1, 7), 1, 2);
        dueSubtract(limbs(3), limbs(3, MIN), 0, 0);
        dueSubtract(limbs(3), GREATEST, 1, 4);
    }

    private static void subtractWithBorrowThroughAllLimbs() {
        Checks.about("9 subtract: the sign of what it has then, with a borrow through all limbs");
        dueSubtract(limbs(0), limbs(MIN), -1, MIN);
        dueSubtract(ZERO, limbs(1), -1, MINUS_ONE);
        dueSubtract(LEAST, limbs(1), 1, GREATEST);
        dueSubtract(GREATEST, limbs(-1), -1, LEAST);
        dueSubtract(ZERO, LEAST, -1, LEAST);
    }

    private static void negateTheLeast() {
        Checks.about("13 negate: the least number turned round does not fit");
        dueNegate(limbs(MIN), false, MIN);
        dueNegate(limbs(0, MIN), false, 0, MIN);
        dueNegate(limbs(0, 0, MIN), false, 0, 0, MIN);
        dueNegate(LEAST, false, LEAST);
    }

    private static void negateAllOthers() {
        Checks.about("13 negate: every other number turned round fits");
        dueNegate(limbs(0), true, 0);
        dueNegate(limbs(1), true, -1);
        dueNegate(limbs(-1), true, 1);
        dueNegate(limbs(MIN, 0), true, MIN, -1);
        dueNegate(limbs(MIN, -1), true, MIN, 0);
        dueNegate(limbs(0, 1), true, 0, -1);
        dueNegate(limbs(1, MIN), true, -1, MAX);
        dueNegate(limbs(-1, MAX), true, 1, MIN);
        dueNegate(ZERO, true, ZERO);
        dueNegate(GREATEST, true, Checks.wide(1, 0, MIN));
        dueNegate(Checks.wide(1, 0, MIN), true, GREATEST);
    }

    private static void addProductOfEqualFactors() {
        Checks.about("10 addProduct: a may be b");
        LimbRows x = with(limbs(1, 0), limbs(-9));
        dueOn(x, "1 and -9 times -9: addProduct(0, 1, 1)", y -> y.addProduct(0, 1, 1), 1, 82, 0);
        Checks.dueLimbs("addProduct(0, 1, 1)", x, 1, -9);
    }

    private static void addProductOfLeastFactors() {
        Checks.about("10 addProduct: the product of the least numbers");
        dueAddProduct(limbs(0), limbs(MIN), limbs(MIN), 0, 0);
        dueAddProduct(limbs(0, 0), limbs(MIN), limbs(MIN), 1, 0, 0x40000000);
        dueAddProduct(limbs(0, 0, 0), limbs(0, MIN), limbs(MIN), 1, 0, 0, 0x40000000);
        dueAddProduct(limbs(0, 0), limbs(MIN), limbs(MAX), -1, MIN, -0x40000000);
        dueAddProduct(limbs(0, 0, 0, 0), limbs(-1, 0), limbs(-1, 0), 1, 1, -2, 0, 0);
        dueAddProduct(limbs(0, 0, 0, 0), limbs(1, -1), limbs(-1, 0), -1, -1, 1, -1, -1);
        dueAddProduct(ZERO, LEAST, LEAST, 0, ZERO);
        dueAddProduct(ZERO, GREATEST, GREATEST, 1, Checks.wide(1, 0, 0));
        dueAddProduct(limbs(0, 0), LEAST, GREATEST, 0, 0, 0);
    }

    private static void addProductWrapsRound() {
        Checks.about("10 addProduct: a row keeps what does not fit");
        dueAddProduct(limbs(MAX), limbs(1), limbs(1), -1, MIN);
        dueAddProduct(limbs(MIN), limbs(-1), limbs(1), 1, MAX);
        dueAddProduct(GREATEST, limbs(-1), limbs(-1), -1, LEAST);
        dueAddProduct(LEAST, limbs(1), limbs(-1), 1, GREATEST);
        dueAddProduct(ZERO, LEAST, limbs(-1), -1, LEAST);
        dueAddProduct(MINUS_ONE, limbs(1), limbs(1), 0, ZERO);
    }

    private static void addProductSigns() {
        Checks.about("10 addProduct: the sign of what it has then");
        dueAddProduct(limbs(-6), limbs(2), limbs(3), 0, 0);
        dueAddProduct(limbs(-7), limbs(2), limbs(3), -1, -1);
        dueAddProduct(limbs(-5), limbs(2), limbs(3), 1, 1);
        dueAddProduct(limbs(6), limbs(2), limbs(-3), 0, 0);
        dueAddProduct(limbs(5), limbs(-2), limbs(3), -1, -1);
        dueAddProduct(limbs(-4), limbs(0), GREATEST, -1, -4);
        dueAddProduct(limbs(4), LEAST, limbs(0), 1, 4);
    }

    private static void subtractProductOfEqualFactors() {
        Checks.about("11 subtractProduct: a may be b");
        LimbRows x = with(limbs(1, 0), limbs(-9));
        dueOn(x, "1 less -9 times -9: subtractProduct(0, 1, 1)", y -> y.subtractProduct(0, 1, 1), -1, -80, -1);
        Checks.dueLimbs("subtractProduct(0, 1, 1)", x, 1, -9);
    }

    private static void subtractProductOfLeastFactors() {
        Checks.about("11 subtractProduct: the product of the least numbers");
        dueSubtractProduct(limbs(0), limbs(MIN), limbs(MIN), 0, 0);
        dueSubtractProduct(limbs(0, 0), limbs(MIN), limbs(MIN), -1, 0, -0x40000000);
        dueSubtractProduct(limbs(0, 0, 0), limbs(0, MIN), limbs(MIN), -1, 0, 0, -0x40000000);
        dueSubtractProduct(limbs(0, 0), limbs(MIN), limbs(MAX), 1, MIN, 0x3FFFFFFF);
        dueSubtractProduct(limbs(0, 0, 0, 0), limbs(-1, 0), limbs(-1, 0), -1, -1, 1, -1, -1);
        dueSubtractProduct(ZERO, LEAST, LEAST, 0, ZERO);
        dueSubtractProduct(ZERO, GREATEST, GREATEST, -1, MINUS_ONE);
    }

    private static void subtractProductWrapsRound() {
        Checks.about("11 subtractProduct: a row keeps what does not fit");
        dueSubtractProduct(limbs(MIN), limbs(1), limbs(1), 1, MAX);
        dueSubtractProduct(limbs(MAX), limbs(-1), limbs(1), -1, MIN);
        dueSubtractProduct(LEAST, limbs(-1), limbs(-1), 1, GREATEST);
        dueSubtractProduct(GREATEST, limbs(1), limbs(-1), -1, LEAST);
        dueSubtractProduct(ZERO, LEAST, limbs(1), -1, LEAST);
        dueSubtractProduct(ZERO, limbs(1), limbs(1), -1, MINUS_ONE);
    }

    private static void subtractProductSigns() {
        Checks.about("11 subtractProduct: the sign of what it has then");
        dueSubtractProduct(limbs(6), limbs(2), limbs(3), 0, 0);
        dueSubtractProduct(limbs(5), limbs(2), limbs(3), -1, -1);
        dueSubtractProduct(limbs(7), limbs(2), limbs(3), 1, 1);
        dueSubtractProduct(limbs(-6), limbs(-2), limbs(3), 0, 0);
        dueSubtractProduct(limbs(-5), limbs(2), limbs(-3), 1, 1);
        dueSubtractProduct(limbs(-4), limbs(0), GREATEST, -1, -4);
        dueSubtractProduct(limbs(4), LEAST, limbs(0), 1, 4);
    }

    private static void timesNothingAndOne() {
        Checks.about("12 times: v 0 and 1");
        dueTimes(limbs(MIN), 0, 0, 0);
        dueTimes(GREATEST, 0, 0, ZERO);
        dueTimes(limbs(MIN), 1, -1, MIN);
        dueTimes(GREATEST, 1, 1, GREATEST);
        dueTimes(limbs(0), Long.MIN_VALUE, 0, 0);
    }

    private static void timesMinusOne() {
        Checks.about("12 times: v -1, the least number among them");
        dueTimes(limbs(5), -1, -1, -5);
        dueTimes(limbs(MIN), -1, -1, MIN);
        dueTimes(limbs(0, MIN), -1, -1, 0, MIN);
        dueTimes(LEAST, -1, -1, LEAST);
        dueTimes(GREATEST, -1, -1, Checks.wide(1, 0, MIN));
        dueTimes(MINUS_ONE, -1, 1, Checks.wide(1, 0, 0));
    }

    private static void timesTheLeastLong() {
        Checks.about("12 times: v the least and the greatest long");
        dueTimes(limbs(1), Long.MIN_VALUE, 0, 0);
        dueTimes(limbs(1, 0), Long.MIN_VALUE, -1, 0, MIN);
        dueTimes(limbs(-1, -1), Long.MIN_VALUE, -1, 0, MIN);
        dueTimes(limbs(-1, -1, -1), Long.MIN_VALUE, 1, 0, MIN, 0);
        dueTimes(limbs(0, MIN, -1, -1), Long.MIN_VALUE, 1, 0, 0, 0, 0x40000000);
        dueTimes(limbs(-1, MAX, 0, 0), Long.MAX_VALUE, 1, 1, 0, -1, 0x3FFFFFFF);
        dueTimes(limbs(0, MIN, -1, -1), Long.MAX_VALUE, -1, 0, MIN, 0, -0x40000000);
    }

    private static void timesWrapsRound() {
        Checks.about("12 times: a row keeps what does not fit");
        dueTimes(limbs(0x40000000), 2, -1, MIN);
        dueTimes(limbs(0x40000000), 4, 0, 0);
        dueTimes(limbs(3), 0x100000000L, 0, 0);
        dueTimes(limbs(MAX), 3, 1, MAX - 2);
        dueTimes(LEAST, 2, 0, ZERO);
        dueTimes(LEAST, 3, -1, LEAST);
        dueTimes(GREATEST, 2, -1, Checks.wide(-2, -1, -1));
    }

    private static void leftByNothing() {
        Checks.about("14 left: k 0");
        dueLeft(limbs(MIN), 0, -1, MIN);
        dueLeft(limbs(0), 0, 0, 0);
        dueLeft(limbs(5, 6, 7), 0, 1, 5, 6, 7);
        dueLeft(GREATEST, 0, 1, GREATEST);
        dueLeft(LEAST, 0, -1, LEAST);
    }

    private static void leftByMost() {
        Checks.about("14 left: k 8192");
        dueLeft(limbs(1), 8192, 0, 0);
        dueLeft(limbs(-1, -1), 8192, 0, 0, 0);
        dueLeft(LEAST, 8192, 0, ZERO);
        dueLeft(GREATEST, 8192, 0, ZERO);
        dueLeft(MINUS_ONE, 8192, 0, ZERO);
    }

    private static void leftToTheLastBitAndBeyond() {
        Checks.about("14 left: a row keeps 2^k times its number, the highest bits cut off");
        dueLeft(limbs(1), 30, 1, 0x40000000);
        dueLeft(limbs(1), 31, -1, MIN);
        dueLeft(limbs(2), 31, 0, 0);
        dueLeft(limbs(1), 32, 0, 0);
        dueLeft(limbs(-1, 0), 32, -1, 0, -1);
        dueLeft(limbs(-1, 0), 31, 1, MIN, MAX);
        dueLeft(limbs(-1, 0), 33, -1, 0, -2);
        dueLeft(limbs(5, 7), 64, 0, 0, 0);
        dueLeft(MINUS_ONE, 8191, -1, LEAST);
        dueLeft(Checks.wide(2, 0, 0), 8191, 0, ZERO);
        dueLeft(Checks.wide(1, 0, 0), 8190, 1, Checks.wide(0, 0, 0x40000000));
        dueLeft(Checks.wide(3, 0, 0), 8160, 1, Checks.wide(0, 0, 3));
    }

    private static void rightByNothing() {
        Checks.about("15 right: k 0");
        dueRight(limbs(MIN), 0, -1, MIN);
        dueRight(limbs(0), 0, 0, 0);
        dueRight(limbs(5, 6, 7), 0, 1, 5, 6, 7);
        dueRight(GREATEST, 0, 1, GREATEST);
        dueRight(LEAST, 0, -1, LEAST);
    }

    private static void rightByMost() {
        Checks.about("15 right: k 8192");
        dueRight(limbs(MAX), 8192, 0, 0);
        dueRight(limbs(-1), 8192, -1, -1);
        dueRight(limbs(MIN), 8192, -1, -1);
        dueRight(limbs(0, MIN), 8192, -1, -1, -1);
        dueRight(GREATEST, 8192, 0, ZERO);
        dueRight(LEAST, 8192, -1, MINUS_ONE);
        dueRight(LEAST, 8191, -1, MINUS_ONE);
        dueRight(LEAST, 8190, -1, Checks.wide(-2, -1, -1));
        dueRight(GREATEST, 8190, 1, Checks.wide(1, 0, 0));
    }

    private static void rightRoundsDown() {
        Checks.about("15 right: rounded down");
        dueRight(limbs(5), 1, 1, 2);
        dueRight(limbs(-5), 1, -1, -3);
        dueRight(limbs(-4), 1, -1, -2);
        dueRight(limbs(1), 1, 0, 0);
        dueRight(limbs(-1), 1, -1, -1);
        dueRight(limbs(-1), 31, -1, -1);
        dueRight(limbs(-9), 3, -1, -2);
        dueRight(limbs(-8), 3, -1, -1);
        dueRight(limbs(-7), 3, -1, -1);
        dueRight(limbs(7), 3, 0, 0);
        dueRight(limbs(MIN), 31, -1, -1);
        dueRight(limbs(MIN), 32, -1, -1);
        dueRight(limbs(MIN), 33, -1, -1);
        dueRight(limbs(MAX), 30, 1, 1);
        dueRight(limbs(MAX), 31, 0, 0);
        dueRight(limbs(MAX), 32, 0, 0);
    }

    private static void rightOverLimbs() {
        Checks.about("15 right: over limbs");
        dueRight(limbs(0, 1), 1, 1, MIN, 0);
        dueRight(limbs(-1, 1), 32, 1, 1, 0);
        dueRight(limbs(1, -1), 32, -1, -1, -1);
        dueRight(limbs(0, -3), 33, -1, -2, -1);
        dueRight(limbs(7, 8, 9), 64, 1, 9, 0, 0);
        dueRight(limbs(0, 0, 9), 65, 1, 4, 0, 0);
        dueRight(limbs(0, 0, -9), 63, -1, -18, -1, -1);
        dueRight(Checks.wide(0, 0, -3), 8160, -1, Checks.wide(-3, -1, -1));
    }

    private static void nearestByNothing() {
        Checks.about("16 nearest: k 0");
        dueNearest(limbs(MIN), 0, -1, MIN);
        dueNearest(limbs(MAX), 0, 1, MAX);
        dueNearest(limbs(-1), 0, -1, -1);
        dueNearest(limbs(0), 0, 0, 0);
        dueNearest(limbs(5, 6, 7), 0, 1, 5, 6, 7);
        dueNearest(GREATEST, 0, 1, GREATEST);
    }

    private static void nearestByMost() {
        Checks.about("16 nearest: k 8192");
        dueNearest(limbs(MAX), 8192, 0, 0);
        dueNearest(limbs(-1), 8192, 0, 0);
        dueNearest(limbs(MIN), 8192, 0, 0);
        dueNearest(GREATEST, 8192, 0, ZERO);
        dueNearest(LEAST, 8192, 0, ZERO);
        dueNearest(LEAST, 8191, -1, MINUS_ONE);
        dueNearest(GREATEST, 8191, 1, Checks.wide(1, 0, 0));
        dueNearest(Checks.wide(0, 0, 0x40000000), 8191, 0, ZERO);
        dueNearest(Checks.wide(1, 0, 0x40000000), 8191, 1, Checks.wide(1, 0, 0));
        dueNearest(Checks.wide(0, 0, -0x40000000), 8191, 0, ZERO);
        dueNearest(Checks.wide(-1, -1, -0x40000001), 8191, -1, MINUS_ONE);
    }

    private static void nearestOfTwoTheEvenOne() {
        Checks.about("16 nearest: of two that are as near to the even one");
        dueNearest(limbs(1), 1, 0, 0);
        dueNearest(limbs(3), 1, 1, 2);
        dueNearest(limbs(5), 1, 1, 2);
        dueNearest(limbs(7), 1, 1, 4);
        dueNearest(limbs(-1), 1, 0, 0);
        dueNearest(limbs(-3), 1, -1, -2);
        dueNearest(limbs(-5), 1, -1, -2);
        dueNearest(limbs(-7), 1, -1, -4);
        dueNearest(limbs(12), 3, 1, 2);
        dueNearest(limbs(20), 3, 1, 2);
        dueNearest(limbs(-12), 3, -1, -2);
        dueNearest(limbs(-20), 3, -1, -2);
        dueNearest(limbs(MIN), 32, 0, 0);
        dueNearest(limbs(MIN, 0), 32, 0, 0, 0);
        dueNearest(limbs(MIN, 1), 32, 1, 2, 0);
        dueNearest(limbs(MIN, 2), 32, 1, 2, 0);
        dueNearest(limbs(MIN, -1), 32, 0, 0, 0);
        dueNearest(limbs(MIN, -2), 32, -1, -2, -1);
        dueNearest(limbs(0, 1), 33, 0, 0, 0);
        dueNearest(limbs(0, 3), 33, 1, 2, 0);
        dueNearest(limbs(0, MIN), 64, 0, 0, 0);
    }

    private static void nearestJustBesideTheHalf() {
        Checks.about("16 nearest: rounded to the nearest whole number");
        dueNearest(limbs(11), 3, 1, 1);
        dueNearest(limbs(13), 3, 1, 2);
        dueNearest(limbs(3), 3, 0, 0);
        dueNearest(limbs(5), 3, 1, 1);
        dueNearest(limbs(-3), 3, 0, 0);
        dueNearest(limbs(-5), 3, -1, -1);
        dueNearest(limbs(-11), 3, -1, -1);
        dueNearest(limbs(-13), 3, -1, -2);
        dueNearest(limbs(MIN), 31, -1, -1);
        dueNearest(limbs(MIN), 33, 0, 0);
        dueNearest(limbs(MAX), 32, 0, 0);
        dueNearest(limbs(MAX), 31, 1, 1);
        dueNearest(limbs(MAX, 0), 32, 0, 0, 0);
        dueNearest(limbs(MIN + 1, 0), 32, 1, 1, 0);
        dueNearest(limbs(MIN + 1, -1), 32, 0, 0, 0);
        dueNearest(limbs(MAX, -1), 32, -1, -1, -1);
        dueNearest(limbs(1, 1), 33, 1, 1, 0);
        dueNearest(limbs(-1, 0), 33, 0, 0, 0);
    }

    private static void nearestCarriesThroughLimbs() {
        Checks.about("16 nearest: rounded up through limbs");
        dueNearest(limbs(MAX), 1, 1, 0x40000000);
        dueNearest(limbs(-1, 0), 1, 1, MIN, 0);
        dueNearest(limbs(-1, -1, 0), 32, 1, 0, 1, 0);
        dueNearest(limbs(-1, -1, -1, 0), 1, 1, 0, 0, MIN, 0);
        dueNearest(limbs(-1, -1, -1), 32, 0, 0, 0, 0);
        dueNearest(GREATEST, 1, 1, Checks.wide(0, 0, 0x40000000));
        dueNearest(MINUS_ONE, 1, 0, ZERO);
    }

    private static void divideByOne() {
        Checks.about("17 divide: d 1");
        dueDivide(limbs(MIN), 1, 0, MIN);
        dueDivide(limbs(MAX), 1, 0, MAX);
        dueDivide(limbs(-1), 1, 0, -1);
        dueDivide(limbs(0), 1, 0, 0);
        dueDivide(limbs(5, -6, 7), 1, 0, 5, -6, 7);
        dueDivide(LEAST, 1, 0, LEAST);
        dueDivide(GREATEST, 1, 0, GREATEST);
    }

    private static void divideByMost() {
        Checks.about("17 divide: d 2^62 - 1");
        dueDivide(limbs(0), MOST_DIVISOR, 0, 0);
        dueDivide(limbs(MAX), MOST_DIVISOR, MAX, 0);
        dueDivide(limbs(-1), MOST_DIVISOR, MOST_DIVISOR - 1, -1);
        dueDivide(limbs(MIN), MOST_DIVISOR, MOST_DIVISOR - 0x80000000L, -1);
        dueDivide(limbs(-2, 0x3FFFFFFF), MOST_DIVISOR, MOST_DIVISOR - 1, 0, 0);
        dueDivide(limbs(-1, 0x3FFFFFFF), MOST_DIVISOR, 0, 1, 0);
        dueDivide(limbs(0, 0x40000000), MOST_DIVISOR, 1, 1, 0);
        dueDivide(limbs(-1, MAX), MOST_DIVISOR, 1, 2, 0);
        dueDivide(limbs(1, -0x40000000), MOST_DIVISOR, 0, -1, -1);
        dueDivide(limbs(0, -0x40000000), MOST_DIVISOR, MOST_DIVISOR - 1, -2, -1);
        dueDivide(limbs(0, MIN), MOST_DIVISOR, MOST_DIVISOR - 2, -3, -1);
    }

    private static void divideBelowNothing() {
        Checks.about("17 divide: rounded down, a number less than 0");
        dueDivide(limbs(-1), 2, 1, -1);
        dueDivide(limbs(-6), 3, 0, -2);
        dueDivide(limbs(-7), 3, 2, -3);
        dueDivide(limbs(-8), 3, 1, -3);
        dueDivide(limbs(-9), 3, 0, -3);
        dueDivide(limbs(MIN), 0x80000000L, 0, -1);
        dueDivide(limbs(MIN), 0x7FFFFFFFL, 0x7FFFFFFEL, -2);
        dueDivide(limbs(MIN), 0x80000001L, 1, -1);
        dueDivide(limbs(0, -1), 0x100000000L, 0, -1, -1);
        dueDivide(limbs(-1, -2), 0x100000000L, 0xFFFFFFFFL, -2, -1);
    }

    /** Numbers from -2 d to 2 d, so that each rest comes with each sign. */
    private static void divideLeavesNothingToOneLessThanTheDivisor() {
        Checks.about("17 divide: what is left, 0 .. d - 1");
        for (int d = 1; d <= 7; d++) {
            for (int quotient = -2; quotient < 2; quotient++) {
                for (int left = 0; left < d; left++) {
                    dueDivide(limbs(quotient * d + left), d, left, quotient);
                }
            }
        }
    }

    private static void divideFullWidth() {
        Checks.about("17 divide: 256 limbs");
        dueDivide(LEAST, 2, 0, Checks.wide(0, 0, -0x40000000));
        dueDivide(GREATEST, 2, 1, Checks.wide(-1, -1, 0x3FFFFFFF));
        dueDivide(GREATEST, 3, 1, Checks.wide(0xAAAAAAAA, 0xAAAAAAAA, 0x2AAAAAAA));
        dueDivide(LEAST, 3, 1, Checks.wide(0x55555555, 0x55555555, 0xD5555555));
        dueDivide(MINUS_ONE, MOST_DIVISOR, MOST_DIVISOR - 1, MINUS_ONE);
        dueDivide(ZERO, MOST_DIVISOR, 0, ZERO);
    }

    private static void dueZeros(int want, int... limbs) {
        Checks.due(text(limbs) + ": zeros(0)", Checks.with(limbs).zeros(0), want);
    }

    private static void zerosOfNothing() {
        Checks.about("18 zeros: 32 times the width for 0");
        LimbRows x = new LimbRows();
        Checks.due("new: zeros(0)", x.zeros(0), 32);
        for (int w = 1; w <= 255; w++) {
            x.widen(0, w);
            Checks.due("0 in " + w + " limbs: zeros(0)", x.zeros(0), 32 * w);
        }
        dueZeros(8192, ZERO);
        LimbRows cut = Checks.with(0, 7);
        cut.widen(0, 1);
        Checks.due("cut to 0: zeros(0)", cut.zeros(0), 32);
    }

    private static void zerosOfTheLeast() {
        Checks.about("18 zeros: how often 2 divides the least and the greatest number");
        dueZeros(31, MIN);
        dueZeros(63, 0, MIN);
        dueZeros(8191, LEAST);
        dueZeros(0, GREATEST);
        dueZeros(0, MINUS_ONE);
    }

    private static void zerosOverLimbs() {
        Checks.about("18 zeros: how often 2 divides a row's number");
        dueZeros(0, 1);
        dueZeros(0, -1);
        dueZeros(3, 40);
        dueZeros(3, -40);
        dueZeros(31, MIN, 0);
        dueZeros(32, 0, 1);
        dueZeros(33, 0, 2);
        dueZeros(64, 0, 0, -1);
        dueZeros(1, 2, 0, MIN);
        dueZeros(8160, Checks.wide(0, 0, 1));
    }

    private static void dueLength(int want, int... limbs) {
        Checks.due(text(limbs) + ": length(0)", Checks.with(limbs).length(0), want);
    }

    private static void lengthOfNothingAndMinusOne() {
        Checks.about("19 length: 0 and -1");
        dueLength(0, 0);
        dueLength(0, -1);
        dueLength(0, 0, 0);
        dueLength(0, -1, -1);
        dueLength(0, ZERO);
        dueLength(0, MINUS_ONE);
    }

    /** 2^k - 1 and -2^k are the last numbers of length k; 2^k and -2^k - 1 are one longer. */
    private static void lengthOfEveryPower() {
        Checks.about("19 length: the least k so that a row's number is from -2^k to 2^k - 1");
        for (int k = 0; k < 8192; k++) {
            int width = k / 32 + 1;
            int[] below = new int[width];
            Arrays.fill(below, -1);
            below[width - 1] = (1 << k % 32) - 1;
            dueLength(k, below);
            int[] least = new int[width];
            least[width - 1] = -1 << k % 32;
            dueLength(k, least);
            if (k < 8191) {
                dueLengthOfWiderPower(k);
            }
        }
    }

    private static void dueLengthOfWiderPower(int k) {
        int width = (k + 1) / 32 + 1;
        int[] power = new int[width];
        power[k / 32] = 1 << k % 32;
        dueLength(k + 1, power);
        int[] beyond = new int[width];
        Arrays.fill(beyond, -1);
        beyond[k / 32] = ~(1 << k % 32);
        dueLength(k + 1, beyond);
    }

    private static void dueSign(int want, int... limbs) {
        Checks.due(text(limbs) + ": sign(0)", Checks.with(limbs).sign(0), want);
    }

    private static void signs() {
        Checks.about("20 sign: -1, 0 or 1");
        dueSign(0, 0);
        dueSign(0, 0, 0, 0);
        dueSign(0, ZERO);
        dueSign(1, 1);
        dueSign(1, MAX);
        dueSign(1, MIN, 0);
        dueSign(1, -1, 0);
        dueSign(1, 0, 1);
        dueSign(1, Checks.wide(1, 0, 0));
        dueSign(1, Checks.wide(0, 0, 1));
        dueSign(1, GREATEST);
        dueSign(-1, -1);
        dueSign(-1, MIN);
        dueSign(-1, 0, MIN);
        dueSign(-1, 5, -1);
        dueSign(-1, LEAST);
        dueSign(-1, MINUS_ONE);
    }

    private static void dueOrder(int want, int[] a, int... b) {
        LimbRows x = with(a, b);
        Checks.due(text(a) + ", " + text(b) + ": compare(0, 1)", x.compare(0, 1), want);
        Checks.due(text(a) + ", " + text(b) + ": compare(1, 0)", x.compare(1, 0), -want);
    }

    private static void compareLessEqualGreater() {
        Checks.about("21 compare: -1 less, 0 equal, 1 greater");
        dueOrder(-1, limbs(4), 5);
        dueOrder(0, limbs(5), 5);
        dueOrder(1, limbs(6), 5);
        dueOrder(-1, limbs(-1), 0);
        dueOrder(-1, limbs(-1), 1);
        dueOrder(-1, limbs(-6), -5);
        dueOrder(-1, limbs(MIN), MAX);
        dueOrder(-1, limbs(MIN), MIN + 1);
        dueOrder(-1, limbs(MAX - 1), MAX);
        dueOrder(-1, limbs(MAX, 1), MIN, 1);
        dueOrder(-1, limbs(0, -1), -1, -1);
        dueOrder(-1, limbs(-1, 1), 0, 2);
        dueOrder(-1, LEAST, GREATEST);
        dueOrder(-1, LEAST, Checks.wide(1, 0, MIN));
        dueOrder(-1, Checks.wide(-2, -1, MAX), GREATEST);
    }

    private static void compareOverWidths() {
        Checks.about("21 compare: numbers of other widths");
        dueOrder(0, limbs(-1), -1, -1);
        dueOrder(0, limbs(MIN), MIN, -1);
        dueOrder(0, limbs(-1), MINUS_ONE);
        dueOrder(0, limbs(0), ZERO);
        dueOrder(0, limbs(7), Checks.wide(7, 0, 0));
        dueOrder(-1, limbs(MIN), MIN, 0);
        dueOrder(-1, limbs(MAX), MIN, 0);
        dueOrder(-1, limbs(-1), -1, 0);
        dueOrder(1, limbs(MIN), MAX, -1);
        dueOrder(-1, limbs(5), 4, 1);
        dueOrder(1, limbs(-5), -4, -2);
        dueOrder(1, limbs(0), LEAST);
        dueOrder(-1, limbs(MAX), GREATEST);
    }

    private static void compareWithItself() {
        Checks.about("21 compare: a row with itself");
        for (int[] limbs : new int[][] {{0}, {5}, {MIN}, {-1, 3}, LEAST, GREATEST}) {
            Checks.due(text(limbs) + ": compare(0, 0)", Checks.with(limbs).compare(0, 0), 0);
        }
    }
}
