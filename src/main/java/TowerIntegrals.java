/**
 * Sums of numbers times x to the n times a kind (a power of L or of E), modulo 32003: their slopes,
 * products and integrals, and what stands against an integral.
 */
public final class TowerIntegrals {
    private static final int MODULUS = 32003;
    private static final int LIMIT = 60;

    private static final int KINDS = 8;
    private static final int LAST_LOG = 3;
    private static final int LAST_DIVIDING = 5;
    private static final int ALL_KINDS = -1;
    private static final int[] L_POWER = {0, 1, 2, 3, 0, 0, 0, 0};
    private static final int[] E_POWER = {0, 0, 0, 0, -2, -1, 1, 2};

    private static final int LOWEST = -4;
    private static final int HIGHEST = 4;
    private static final int POWERS = HIGHEST - LOWEST + 1;
    private static final int SIZE = KINDS * POWERS;
    private static final int NO_DEGREE = LOWEST - 1;
    private static final int NONE = -1;

    // A product is summed up in a wider row first, since only the whole sum tells what is too far:
    // L to the 0 .. 6, E to the -4 .. -1, E to the 1 .. 4, each with x to the -8 .. 8.
    private static final int WIDE_KINDS = 15;
    private static final int WIDE_L_KINDS = 7;
    private static final int WIDE_LOWEST_E = -4;
    private static final int WIDE_LOWEST = 2 * LOWEST;
    private static final int WIDE_HIGHEST = 2 * HIGHEST;
    private static final int WIDE_POWERS = WIDE_HIGHEST - WIDE_LOWEST + 1;
    private static final int WIDE_SIZE = WIDE_KINDS * WIDE_POWERS;

    private final int[] numbers;
    private final int[] wide;
    private int made;

    public TowerIntegrals() {
        numbers = new int[LIMIT * SIZE];
        wide = new int[WIDE_SIZE];
        made = 0;
    }

    public int term(int kind, int n, long v) throws IllegalArgumentException, IllegalStateException {
        needKind(kind);
        needPower(n);
        needRoom();
        clearDraft();
        setDraft(kind, n, reduce(v));
        return keepDraft();
    }

    public int add(int f, int g) throws IndexOutOfBoundsException, IllegalStateException {
        needElement(f);
        needElement(g);
        needRoom();
        draftSum(f, g, 1);
        return keepDraft();
    }

    public int less(int f, int g, long v) throws IndexOutOfBoundsException, IllegalStateException {
        needElement(f);
        needElement(g);
        needRoom();
        draftSum(f, g, reduce(-(long) reduce(v)));
        return keepDraft();
    }

    public int times(int f, int g) throws IndexOutOfBoundsException, IllegalStateException {
        needElement(f);
        needElement(g);
        needRoom();
        if (logMeetsExponential(f, g) || logMeetsExponential(g, f)) {
            throw new IllegalStateException("a product of L and E");
        }
        sumUpProduct(f, g);
        if (productIsTooFar()) {
            throw new IllegalStateException("the product is too far");
        }
        draftProduct();
        return keepDraft();
    }

    public int derive(int f) throws IndexOutOfBoundsException, IllegalStateException {
        needElement(f);
        needRoom();
        if (slopeIsTooFar(f)) {
            throw new IllegalStateException("the slope is too far");
        }
        draftSlope(f);
        return keepDraft();
    }

    public int integrate(int f) throws IndexOutOfBoundsException, IllegalStateException {
        needElement(f);
        needRoom();
        if (hasRest(f)) {
            return NONE;
        }
        if (integralIsTooFar(f)) {
            throw new IllegalStateException("the integral is too far");
        }
        clearDraft();
        draftLogIntegral(f);
        draftConstantPowerIntegral(f);
        draftExponentialIntegral(f);
        return keepDraft();
    }

    public int rest(int f, int kind) throws IndexOutOfBoundsException, IllegalArgumentException {
        needElement(f);
        needKind(kind);
        return restOf(f, kind);
    }

    public int at(int f, int kind, int n) throws IndexOutOfBoundsException, IllegalArgumentException {
        needElement(f);
        needKind(kind);
        needPower(n);
        return number(f, kind, n);
    }

    public int terms(int f, int kind) throws IndexOutOfBoundsException, IllegalArgumentException {
        needElement(f);
        if (kind == ALL_KINDS) {
            return countTerms(f, 0, KINDS - 1);
        }
        needKind(kind);
        return countTerms(f, kind, kind);
    }

    public int degree(int f, int kind) throws IndexOutOfBoundsException, IllegalArgumentException {
        needElement(f);
        needKind(kind);
        for (int n = HIGHEST; n >= LOWEST; n--) {
            if (number(f, kind, n) != 0) {
                return n;
            }
        }
        return NO_DEGREE;
    }

    public int value(int f, long x, long l, long e) throws IndexOutOfBoundsException {
        needElement(f);
        int xNumber = reduce(x);
        int lNumber = reduce(l);
        int eNumber = reduce(e);
        if (xNumber == 0 && dividesByX(f) || eNumber == 0 && dividesByE(f)) {
            return NONE;
        }
        int xInverse = inverse(xNumber);
        int eInverse = inverse(eNumber);
        int sum = 0;
        for (int kind = 0; kind < KINDS; kind++) {
            int i = exponentialPower(kind);
            int kindValue = multiply(power(lNumber, logPower(kind)),
                    power(i < 0 ? eInverse : eNumber, Math.abs(i)));
            sum = reduce(sum + (long) kindValue * valueInX(f, kind, xNumber, xInverse));
        }
        return sum;
    }

    public boolean same(int f, int g) throws IndexOutOfBoundsException {
        needElement(f);
        needElement(g);
        for (int kind = 0; kind < KINDS; kind++) {
            for (int n = LOWEST; n <= HIGHEST; n++) {
                if (number(f, kind, n) != number(g, kind, n)) {
                    return false;
                }
            }
        }
        return true;
    }

    public int count() {
        return made;
    }

    // What a call needs.

    private void needElement(int f) {
        if (f < 0 || f >= made) {
            throw new IndexOutOfBoundsException("no such element");
        }
    }

    private void needRoom() {
        if (made >= LIMIT) {
            throw new IllegalStateException("60 elements are there");
        }
    }

    private static void needKind(int kind) {
        if (!isKind(kind)) {
            throw new IllegalArgumentException("no such kind");
        }
    }

    private static void needPower(int n) {
        if (!isPower(n)) {
            throw new IllegalArgumentException("no such n");
        }
    }

    private static boolean isKind(int kind) {
        return kind >= 0 && kind < KINDS;
    }

    private static boolean isPower(int n) {
        return n >= LOWEST && n <= HIGHEST;
    }

    private static int logPower(int kind) {
        return isKind(kind) ? L_POWER[kind] : 0;
    }

    private static int exponentialPower(int kind) {
        return isKind(kind) ? E_POWER[kind] : 0;
    }

    // Numbers modulo 32003.

    private static int reduce(long v) {
        long remainder = v % MODULUS;
        return (int) (remainder < 0 ? remainder + MODULUS : remainder);
    }

    private static int multiply(int a, int b) {
        return reduce((long) a * b);
    }

    /** The exponent is at most 32001, which has 15 bits. */
    private static int power(int base, int exponent) {
        int result = 1;
        for (int bit = 14; bit >= 0; bit--) {
            result = reduce((long) result * result);
            if ((exponent >> bit & 1) == 1) {
                result = reduce((long) result * base);
            }
        }
        return result;
    }

    /** By Fermat, since 32003 is a prime; 0 for 0, which no caller lets count. */
    private static int inverse(int a) {
        return power(a, MODULUS - 2);
    }

    private static int divide(long dividend, int divisor) {
        return multiply(reduce(dividend), inverse(reduce(divisor)));
    }

    // The rows of elements. The row behind the last element is the draft of the next one.

    private static int place(int row, int kind, int n) {
        return row * SIZE + kind * POWERS + n - LOWEST;
    }

    private static boolean isPlace(int row, int kind, int n) {
        return row >= 0 && row < LIMIT && isKind(kind) && isPower(n);
    }

    /** 0 where no number can stand, so that sums may reach past the edges. */
    private int number(int row, int kind, int n) {
        return isPlace(row, kind, n) ? numbers[place(row, kind, n)] : 0;
    }

    private void setDraft(int kind, int n, int v) {
        if (isPlace(made, kind, n)) {
            numbers[place(made, kind, n)] = v;
        }
    }

    private void clearDraft() {
        for (int kind = 0; kind < KINDS; kind++) {
            for (int n = LOWEST; n <= HIGHEST; n++) {
                setDraft(kind, n, 0);
            }
        }
    }

    private int keepDraft() {
        int handle = made;
        made = made + 1;
        return handle;
    }

    private int countTerms(int f, int firstKind, int lastKind) {
        int found = 0;
        for (int kind = firstKind; kind <= lastKind; kind++) {
            for (int n = LOWEST; n <= HIGHEST; n++) {
                if (number(f, kind, n) != 0) {
                    found++;
                }
            }
        }
        return found;
    }

    private void draftSum(int f, int g, int factor) {
        for (int kind = 0; kind < KINDS; kind++) {
            for (int n = LOWEST; n <= HIGHEST; n++) {
                setDraft(kind, n, reduce(number(f, kind, n) + (long) factor * number(g, kind, n)));
            }
        }
    }

    // Products.

    private boolean logMeetsExponential(int f, int g) {
        return countTerms(f, 1, LAST_LOG) > 0 && countTerms(g, LAST_LOG + 1, KINDS - 1) > 0;
    }

    private void sumUpProduct(int f, int g) {
        clearWide();
        for (int kind = 0; kind < KINDS; kind++) {
            for (int n = LOWEST; n <= HIGHEST; n++) {
                int factor = number(f, kind, n);
                if (factor != 0) {
                    addMultiple(g, kind, n, factor);
                }
            }
        }
    }

    private void addMultiple(int g, int byKind, int byPower, int factor) {
        for (int kind = 0; kind < KINDS; kind++) {
            int wideKind = wideKind(kind, byKind);
            for (int n = LOWEST; n <= HIGHEST; n++) {
                addWide(wideKind, n + byPower, (long) factor * number(g, kind, n));
            }
        }
    }

    /** Of two kinds that don't bring L and E together. */
    private static int wideKind(int first, int second) {
        int e = exponentialPower(first) + exponentialPower(second);
        if (e == 0) {
            return logPower(first) + logPower(second);
        }
        return WIDE_L_KINDS + e - WIDE_LOWEST_E - (e > 0 ? 1 : 0);
    }

    private static int widePlace(int wideKind, int n) {
        return wideKind * WIDE_POWERS + n - WIDE_LOWEST;
    }

    private static boolean isWidePlace(int wideKind, int n) {
        return wideKind >= 0 && wideKind < WIDE_KINDS && n >= WIDE_LOWEST && n <= WIDE_HIGHEST;
    }

    private void clearWide() {
        for (int i = 0; i < WIDE_SIZE; i++) {
            wide[i] = 0;
        }
    }

    private void addWide(int wideKind, int n, long v) {
        if (v != 0 && isWidePlace(wideKind, n)) {
            int place = widePlace(wideKind, n);
            wide[place] = reduce(wide[place] + v);
        }
    }

    private int wideNumber(int wideKind, int n) {
        return isWidePlace(wideKind, n) ? wide[widePlace(wideKind, n)] : 0;
    }

    private boolean productIsTooFar() {
        for (int wideKind = 0; wideKind < WIDE_KINDS; wideKind++) {
            boolean known = isKnownWideKind(wideKind);
            for (int n = WIDE_LOWEST; n <= WIDE_HIGHEST; n++) {
                if (wideNumber(wideKind, n) != 0 && !(known && isPower(n))) {
                    return true;
                }
            }
        }
        return false;
    }

    private static boolean isKnownWideKind(int wideKind) {
        for (int kind = 0; kind < KINDS; kind++) {
            if (wideKind(kind, 0) == wideKind) {
                return true;
            }
        }
        return false;
    }

    private void draftProduct() {
        for (int kind = 0; kind < KINDS; kind++) {
            for (int n = LOWEST; n <= HIGHEST; n++) {
                setDraft(kind, n, wideNumber(wideKind(kind, 0), n));
            }
        }
    }

    // Slopes.

    /** Of x to the n times a kind in the slope: from x's slope, from E's, and from L's. */
    private int slopeNumber(int f, int kind, int n) {
        long sum = (long) (n + 1) * number(f, kind, n + 1);
        sum += (long) exponentialPower(kind) * number(f, kind, n);
        if (kind < LAST_LOG) {
            sum += (long) (kind + 1) * number(f, kind + 1, n + 1);
        }
        return reduce(sum);
    }

    private boolean slopeIsTooFar(int f) {
        for (int kind = 0; kind < KINDS; kind++) {
            if (slopeNumber(f, kind, LOWEST - 1) != 0) {
                return true;
            }
        }
        return false;
    }

    private void draftSlope(int f) {
        for (int kind = 0; kind < KINDS; kind++) {
            for (int n = LOWEST; n <= HIGHEST; n++) {
                setDraft(kind, n, slopeNumber(f, kind, n));
            }
        }
    }

    // Integrals.

    /**
     * An integral without x to the -4 has its numbers below x to the 0 settled from the lowest one
     * upwards; what the number at n = -1 then is too much by is the rest.
     */
    private int restOf(int f, int kind) {
        if (kind <= LAST_LOG) {
            return 0;
        }
        int i = exponentialPower(kind);
        int settled = 0;
        for (int n = LOWEST; n < -1; n++) {
            settled = divide(number(f, kind, n) - (long) i * settled, n + 1);
        }
        return reduce(number(f, kind, -1) - (long) i * settled);
    }

    private boolean hasRest(int f) {
        for (int kind = LAST_LOG + 1; kind < KINDS; kind++) {
            if (restOf(f, kind) != 0) {
                return true;
            }
        }
        return false;
    }

    /** x to the 4 with a power of L would need x to the 5, and L L L / x would need L to the 4. */
    private boolean integralIsTooFar(int f) {
        for (int kind = 0; kind <= LAST_LOG; kind++) {
            if (number(f, kind, HIGHEST) != 0) {
                return true;
            }
        }
        return number(f, LAST_LOG, -1) != 0;
    }

    /** By parts: each power of L leaves something to the power below it. */
    private void draftLogIntegral(int f) {
        for (int n = LOWEST + 1; n <= HIGHEST; n++) {
            if (n != 0) {
                int above = 0;
                for (int kind = LAST_LOG; kind >= 0; kind--) {
                    above = divide(number(f, kind, n - 1) - (long) (kind + 1) * above, n);
                    setDraft(kind, n, above);
                }
            }
        }
    }

    /** At n = 0 only L has a slope, so the numbers come from one power of L below, over x. */
    private void draftConstantPowerIntegral(int f) {
        for (int kind = 1; kind <= LAST_LOG; kind++) {
            setDraft(kind, 0, divide(number(f, kind - 1, -1), kind));
        }
    }

    /** From the highest n downwards; with no rest the number at n = -4 comes out as 0. */
    private void draftExponentialIntegral(int f) {
        for (int kind = LAST_LOG + 1; kind < KINDS; kind++) {
            int above = 0;
            for (int n = HIGHEST; n > LOWEST; n--) {
                above = divide(number(f, kind, n) - (long) (n + 1) * above, exponentialPower(kind));
                setDraft(kind, n, above);
            }
        }
    }

    // Values.

    private boolean dividesByX(int f) {
        for (int kind = 0; kind < KINDS; kind++) {
            for (int n = LOWEST; n < 0; n++) {
                if (number(f, kind, n) != 0) {
                    return true;
                }
            }
        }
        return false;
    }

    private boolean dividesByE(int f) {
        return countTerms(f, LAST_LOG + 1, LAST_DIVIDING) > 0;
    }

    private int valueInX(int f, int kind, int x, int xInverse) {
        int upper = 0;
        for (int n = HIGHEST; n >= 0; n--) {
            upper = reduce((long) upper * x + number(f, kind, n));
        }
        int lower = 0;
        for (int n = LOWEST; n < 0; n++) {
            lower = multiply(reduce((long) lower + number(f, kind, n)), xInverse);
        }
        return reduce((long) upper + lower);
    }
}
