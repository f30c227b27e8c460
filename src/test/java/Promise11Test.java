/** Promise 11, compare(). */
public final class Promise11Test {
    private static final long MIN = Long.MIN_VALUE;
    private static final long MAX = Long.MAX_VALUE;

    /** The comparison both ways round. */
    private static void compares(FixedKinds x, int kind, long a, int other, long b, int want) {
        String call = "compare(" + kind + ", " + a + ", " + other + ", " + b + ")";
        Due.is(call, x.compare(kind, a, other, b), want);
        Due.is(call + " the other way round", x.compare(other, b, kind, a), -want);
    }

    @Says("-1 less, 0 the same, 1 more")
    private static void promise11InOneKind() {
        FixedKinds x = Due.with(8, true, 3, 7, -100);
        compares(x, 1, 5, 1, 5, 0);
        compares(x, 1, 5, 1, 6, -1);
        compares(x, 1, -1, 1, 0, -1);
        compares(x, 1, 127, 1, -128, 1);
        compares(x, 1, -128, 1, -128, 0);
    }

    @Says("0 the same")
    private static void promise11TheSameInTwoKinds() {
        FixedKinds x = Due.with(8, true, 1, 1, 5);
        x.kind(8, false, 1, 2, -5);
        compares(x, 1, -5, 2, 10, 0);
        compares(x, 1, -5, 2, 9, 1);
        compares(x, 1, -5, 2, 11, -1);
        compares(x, 1, 0, 2, 20, 0);
        compares(x, 1, 0, 2, 0, 1);
    }

    @Says("Its VALUE is RAW * SLOPE + OFFSET, exactly.")
    private static void promise11TheLeastDifference() {
        FixedKinds x = Due.with(64, true, 1, 999, 0);
        x.kind(64, true, 1, 1000, 0);
        long whole = MAX / 1000 - 1;
        // 1/999 and 1/1000 are 1/999000 apart, also beside a large whole part.
        compares(x, 1, 1, 2, 1, 1);
        compares(x, 1, -1, 2, -1, -1);
        compares(x, 1, 999 * whole + 1, 2, 1000 * whole + 1, 1);
        compares(x, 1, -999 * whole - 1, 2, -1000 * whole - 1, -1);
        compares(x, 1, 999 * whole, 2, 1000 * whole, 0);
        compares(x, 1, 999 * whole, 2, 1000 * whole + 1, -1);
    }

    @Says("Its VALUE is RAW * SLOPE + OFFSET, exactly.")
    private static void promise11TheWidestValues() {
        FixedKinds x = Due.with(64, true, 1000, 1, 1000000);
        x.kind(64, true, 1000, 1, -1000000);
        x.kind(63, false, 999, 1000, 0);
        compares(x, 1, MIN, 1, MAX, -1);
        compares(x, 1, MIN, 2, MAX, -1);
        compares(x, 1, MAX, 1, MAX - 1, 1);
        compares(x, 1, MIN, 2, MIN + 2000, 0);
        compares(x, 1, MIN, 2, MIN + 2001, -1);
        compares(x, 1, MAX - 2000, 2, MAX, 0);
        compares(x, 1, MAX, 3, MAX, 1);
        compares(x, 1, -1000, 3, 0, 0);
    }

    @Says("A number told as RAW that is none is BROUGHT IN")
    private static void promise11BroughtIn() {
        FixedKinds x = Due.with(8, true, 1, 1, 0);
        x.kind(8, false, 1, 1, 0);
        compares(x, 1, 128, 1, 127, -1);
        compares(x, 1, 256, 1, 0, 0);
        compares(x, 2, -1, 2, 255, 0);
        compares(x, 1, 255, 2, 255, -1);
        compares(x, 1, MIN, 2, 256, 0);
    }

    @Says("-2 there is no such kind")
    private static void promise11NoKind() {
        FixedKinds x = Due.with(8, true, 1, 1, 0);
        int[] numbers = {0, -1, 2, 40, 41, Integer.MIN_VALUE, Integer.MAX_VALUE};
        for (int kind : numbers) {
            Due.is("kind " + kind, x.compare(kind, 1, 1, 1), -2);
            Due.is("other kind " + kind, x.compare(1, 1, kind, 1), -2);
            Due.is("both kinds " + kind, x.compare(kind, 1, kind, 1), -2);
        }
    }

    public static void main(String[] args) {
        Due.run(Promise11Test.class);
    }
}
