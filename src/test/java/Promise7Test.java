/** Promise 7, physical(). */
public final class Promise7Test {
    private static final long MIN = Long.MIN_VALUE;
    private static final long MAX = Long.MAX_VALUE;
    private static final long ALL = 0xFFFFFFFFL;

    private static void fraction(FixedKinds x, int kind, long v, long... sides) {
        for (int side = 0; side < sides.length; side++) {
            Due.is("physical(" + kind + ", " + v + ", " + side + ")", x.physical(kind, v, side), sides[side]);
        }
    }

    @Says("The value of v as a fraction in lowest terms")
    private static void promise7LowestTerms() {
        FixedKinds x = Due.with(16, true, 4, 6, 0);
        fraction(x, 1, 1, 3, 2, 0, 0);
        fraction(x, 1, 3, 1, 2, 0, 0);
        fraction(x, 1, 5, 3, 10, 0, 0);
        x.kind(16, true, 1000, 1000, 0);
        fraction(x, 2, 7, 1, 7, 0, 0);
        x.kind(16, true, 1, 1000, 0);
        fraction(x, 3, 1, 1000, 1, 0, 0);
        fraction(x, 3, 1000, 1, 1, 0, 0);
        fraction(x, 3, 500, 2, 1, 0, 0);
        fraction(x, 3, 999, 1000, 999, 0, 0);
        x.kind(16, true, 1, 997, 0);
        fraction(x, 4, 996, 997, 996, 0, 0);
        fraction(x, 4, 997, 1, 1, 0, 0);
    }

    @Says("in lowest terms")
    private static void promise7LowestTermsWithAnOffset() {
        FixedKinds x = Due.with(16, true, 6, 4, 3);
        fraction(x, 1, 1, 2, 9, 0, 0);
        fraction(x, 1, 2, 1, 6, 0, 0);
        x.kind(16, true, 1, 1000, -1000000);
        fraction(x, 2, 1, 1000, ALL - 999999998, ALL, -1);
        fraction(x, 2, 1000, 1, ALL - 999998, ALL, -1);
    }

    @Says("in lowest terms")
    private static void promise7ZeroIsZeroOverOne() {
        FixedKinds x = Due.with(16, true, 1, 1000, 0);
        fraction(x, 1, 0, 1, 0, 0, 0);
        x.kind(16, true, 6, 4, 3);
        fraction(x, 2, -2, 1, 0, 0, 0);
        x.kind(32, true, 1, 999, -1000000);
        fraction(x, 3, 999000000, 1, 0, 0, 0);
    }

    @Says("what is below above 0")
    private static void promise7BelowIsAboveZero() {
        FixedKinds x = Due.with(16, true, 4, 6, 0);
        fraction(x, 1, -1, 3, ALL - 1, ALL, -1);
        fraction(x, 1, -2, 3, ALL - 3, ALL, -1);
        fraction(x, 1, -3, 1, ALL - 1, ALL, -1);
        x.kind(16, false, 1, 7, -1);
        fraction(x, 2, 0, 1, ALL, ALL, -1);
        fraction(x, 2, 6, 7, ALL, ALL, -1);
        fraction(x, 2, 7, 1, 0, 0, 0);
    }

    @Says("1, 2, 3 the lowest 32 bits of what is above, the next ones, and those behind them")
    private static void promise7WhereTheBitsEnd() {
        FixedKinds x = Due.with(64, true, 1, 1, 0);
        fraction(x, 1, 1L << 31, 1, 1L << 31, 0, 0);
        fraction(x, 1, ALL, 1, ALL, 0, 0);
        fraction(x, 1, 1L << 32, 1, 0, 1, 0);
        fraction(x, 1, MAX, 1, ALL, ALL >> 1, 0);
        x.kind(64, true, 2, 1, 0);
        fraction(x, 2, 1L << 62, 1, 0, 1L << 31, 0);
        fraction(x, 2, MAX, 1, ALL - 1, ALL, 0);
        x.kind(64, true, 4, 1, 0);
        fraction(x, 3, 1L << 62, 1, 0, 0, 1);
        fraction(x, 3, MAX, 1, ALL - 3, ALL, 1);
    }

    @Says("with sign")
    private static void promise7WhereTheBitsEndBelowZero() {
        FixedKinds x = Due.with(64, true, 1, 1, 0);
        fraction(x, 1, -1, 1, ALL, ALL, -1);
        fraction(x, 1, -(1L << 32), 1, 0, ALL, -1);
        fraction(x, 1, -(1L << 32) - 1, 1, ALL, ALL - 1, -1);
        fraction(x, 1, MIN, 1, 0, 1L << 31, -1);
        x.kind(64, true, 2, 1, 0);
        fraction(x, 2, MIN, 1, 0, 0, -1);
        x.kind(64, true, 4, 1, 0);
        fraction(x, 3, MIN, 1, 0, 0, -2);
        fraction(x, 3, MIN + 1, 1, 4, 0, -2);
    }

    @Says("Its VALUE is RAW * SLOPE + OFFSET, exactly.")
    private static void promise7TheWidestValues() {
        FixedKinds x = Due.with(64, true, 1000, 1, 1000000);
        fraction(x, 1, MIN, 1, 1000000, 0, -500);
        fraction(x, 1, MAX, 1, 999000, 0, 500);
        x.kind(64, true, 1000, 999, -1000000);
        fraction(x, 2, MIN, 999, 3295967296L, ALL, -501);
        fraction(x, 2, MAX, 999, 3295966296L, ALL, 499);
        x.kind(64, true, 999, 1000, 1000000);
        fraction(x, 3, MIN, 125, 125000000, 2415919104L, -63);
        fraction(x, 3, MAX, 1000, 999999001, 1L << 31, 499);
        x.kind(64, true, 1000, 1000, 1);
        fraction(x, 4, MIN, 1, 1, 1L << 31, -1);
        fraction(x, 4, MAX, 1, 0, 1L << 31, 0);
        x.kind(63, false, 1000, 1, 0);
        fraction(x, 5, MAX, 1, ALL - 999, ALL, 499);
    }

    @Says("0 for other sides.")
    private static void promise7OtherSides() {
        FixedKinds x = Due.with(64, true, 1000, 999, -1000000);
        int[] sides = {-1, 4, 5, -4, 256, 65536, Integer.MIN_VALUE, Integer.MAX_VALUE};
        for (int side : sides) {
            Due.is("side " + side, x.physical(1, MIN, side), 0);
        }
    }

    @Says("A number told as RAW that is none is BROUGHT IN")
    private static void promise7BroughtIn() {
        FixedKinds x = Due.with(8, true, 1, 3, 0);
        fraction(x, 1, 128, 3, ALL - 127, ALL, -1);
        fraction(x, 1, 256 + 2, 3, 2, 0, 0);
        fraction(x, 1, MIN, 1, 0, 0, 0);
        x.kind(8, false, 1, 3, 0);
        fraction(x, 2, -1, 1, 85, 0, 0);
        fraction(x, 2, 256, 1, 0, 0, 0);
    }

    @Says("A call whose kind there is not answers 0")
    private static void promise7NoKind() {
        FixedKinds x = Due.with(8, true, 1, 3, 0);
        int[] numbers = {0, -1, 2, 40, 41, Integer.MIN_VALUE, Integer.MAX_VALUE};
        for (int kind : numbers) {
            fraction(x, kind, 1, 0, 0, 0, 0);
        }
    }

    public static void main(String[] args) {
        Due.run(Promise7Test.class);
    }
}
