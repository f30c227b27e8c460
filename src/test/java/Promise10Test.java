/** Promise 10, bound(). */
public final class Promise10Test {
    private static final long MIN = Long.MIN_VALUE;
    private static final long MAX = Long.MAX_VALUE;

    @Says("with sign from -2^(WIDTH - 1) to 2^(WIDTH - 1) - 1")
    private static void promise10EveryWidthWithSign() {
        for (int width = 8; width <= 63; width++) {
            FixedKinds x = Due.with(width, true, 7, 3, 11);
            long beyond = 1L << (width - 1);
            Due.is("the least of " + width, x.bound(1, 0), -beyond);
            Due.is("the greatest of " + width, x.bound(1, 1), beyond - 1);
        }
    }

    @Says("without from 0 to 2^WIDTH - 1")
    private static void promise10EveryWidthWithoutSign() {
        for (int width = 8; width <= 62; width++) {
            FixedKinds x = Due.with(width, false, 7, 3, 11);
            Due.is("the least of " + width, x.bound(1, 0), 0);
            Due.is("the greatest of " + width, x.bound(1, 1), (1L << width) - 1);
        }
    }

    @Says("a WIDTH of 8 to 64 bits, with sign or without (without at most 63)")
    private static void promise10TheWidest() {
        FixedKinds x = Due.with(64, true, 1000, 1, 1000000);
        Due.is("the least of 64 with sign", x.bound(1, 0), MIN);
        Due.is("the greatest of 64 with sign", x.bound(1, 1), MAX);
        x.kind(63, false, 1, 1000, -1000000);
        Due.is("the least of 63 without sign", x.bound(2, 0), 0);
        Due.is("the greatest of 63 without sign", x.bound(2, 1), MAX);
    }

    @Says("The least RAW number (side 0), or the greatest one (others).")
    private static void promise10OtherSides() {
        FixedKinds x = Due.with(8, true, 1, 1, 0);
        int[] sides = {1, -1, 2, 3, 256, 65536, Integer.MIN_VALUE, Integer.MAX_VALUE};
        for (int side : sides) {
            Due.is("side " + side, x.bound(1, side), 127);
        }
        Due.is("side 0", x.bound(1, 0), -128);
    }

    @Says("A call whose kind there is not answers 0")
    private static void promise10NoKind() {
        FixedKinds x = Due.with(8, true, 1, 1, 0);
        int[] numbers = {0, -1, 2, 40, 41, 256 + 1, Integer.MIN_VALUE, Integer.MAX_VALUE};
        for (int kind : numbers) {
            Due.is("the least of kind " + kind, x.bound(kind, 0), 0);
            Due.is("the greatest of kind " + kind, x.bound(kind, 1), 0);
        }
    }

    public static void main(String[] args) {
        Due.run(Promise10Test.class);
    }
}
