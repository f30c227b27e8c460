/** Promise 12, octet(). */
public final class Promise12Test {
    private static final long MIN = Long.MIN_VALUE;
    private static final long MAX = Long.MAX_VALUE;
    private static final int[] FAR = {-2, -8, 9, 64, 256, 1 << 28, 1 << 29, Integer.MIN_VALUE, Integer.MAX_VALUE};

    @Says("Octet i of RAW v, 0 the lowest")
    private static void promise12EachOctet() {
        FixedKinds x = Due.with(64, true, 5, 2, 3);
        long[] wants = {-127, 2, 3, 4, 5, 6, 127, -128};
        for (int i = 0; i < wants.length; i++) {
            Due.is("octet " + i, x.octet(1, 0x807F060504030281L, i), wants[i]);
        }
    }

    private static void allBits(int width, boolean signed) {
        FixedKinds x = Due.with(width, signed, 1, 1, 0);
        int whole = width / 8;
        for (int i = 0; i < whole; i++) {
            Due.is("octet " + i + " of " + width, x.octet(1, -1, i), -1);
        }
        Due.is("octet " + whole + " of " + width, x.octet(1, -1, whole), (1 << width % 8) - 1);
        for (int i = whole + 1; i <= 9; i++) {
            Due.is("octet " + i + " behind " + width, x.octet(1, -1, i), 0);
        }
    }

    @Says("as far as WIDTH goes (the last one filled up with 0 bits)")
    private static void promise12EveryWidthWithSign() {
        for (int width = 8; width <= 64; width++) {
            allBits(width, true);
        }
    }

    @Says("as far as WIDTH goes (the last one filled up with 0 bits)")
    private static void promise12EveryWidthWithoutSign() {
        for (int width = 8; width <= 63; width++) {
            allBits(width, false);
        }
    }

    @Says("the last one filled up with 0 bits")
    private static void promise12TheLastOne() {
        FixedKinds x = Due.with(13, true, 5, 2, 3);
        Due.is("the last one of -4096", x.octet(1, -4096, 1), 16);
        Due.is("the last one of 4095", x.octet(1, 4095, 1), 15);
        Due.is("the lowest one of -4096", x.octet(1, -4096, 0), 0);
        x.kind(63, false, 1, 1, 0);
        Due.is("the last one of 63 bits", x.octet(2, MAX, 7), 127);
        x.kind(16, true, 1, 1, 0);
        Due.is("the last one of 16 bits", x.octet(3, -32768, 1), -128);
    }

    @Says("0 behind it")
    private static void promise12Behind() {
        FixedKinds x = Due.with(8, true, 1, 1, 0);
        x.kind(9, true, 1, 1, 0);
        x.kind(64, true, 1, 1, 0);
        Due.is("octet 1 of 8 bits", x.octet(1, -1, 1), 0);
        Due.is("octet 1 of 9 bits", x.octet(2, -1, 1), 1);
        Due.is("octet 2 of 9 bits", x.octet(2, -1, 2), 0);
        Due.is("octet 7 of 64 bits", x.octet(3, -1, 7), -1);
        Due.is("octet 8 of 64 bits", x.octet(3, -1, 8), 0);
    }

    @Says("and before")
    private static void promise12Before() {
        FixedKinds x = Due.with(64, true, 1, 1, 0);
        Due.is("octet -1", x.octet(1, -1, -1), 0);
        Due.is("octet 0", x.octet(1, -1, 0), -1);
    }

    @Says("0 behind it and before")
    private static void promise12FarOutside() {
        FixedKinds x = Due.with(64, true, 1, 1, 0);
        for (int i : FAR) {
            Due.is("octet " + i, x.octet(1, -1, i), 0);
        }
    }

    @Says("A number told as RAW that is none is BROUGHT IN")
    private static void promise12BroughtIn() {
        FixedKinds x = Due.with(13, true, 1, 1, 0);
        Due.is("the last one of 8192 + 257", x.octet(1, 8192 + 257, 1), 1);
        Due.is("the lowest one of MIN + 7", x.octet(1, MIN + 7, 0), 7);
        Due.is("the last one of MAX", x.octet(1, MAX, 1), 31);
        Due.is("behind MAX", x.octet(1, MAX, 2), 0);
    }

    @Says("A call whose kind there is not answers 0")
    private static void promise12NoKind() {
        FixedKinds x = Due.with(8, true, 1, 1, 0);
        int[] numbers = {0, -1, 2, 40, 41, Integer.MIN_VALUE, Integer.MAX_VALUE};
        for (int kind : numbers) {
            Due.is("octet 0 of kind " + kind, x.octet(kind, -1, 0), 0);
            Due.is("octet -1 of kind " + kind, x.octet(kind, -1, -1), 0);
        }
    }

    public static void main(String[] args) {
        Due.run(Promise12Test.class);
    }
}
