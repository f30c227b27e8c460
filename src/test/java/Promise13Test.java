/** Promise 13, half(). */
public final class Promise13Test {
    private static final long MIN = Long.MIN_VALUE;
    private static final long MAX = Long.MAX_VALUE;

    private static void everyWidth(boolean signed, int greatest) {
        for (int width = 8; width <= greatest; width++) {
            FixedKinds x = Due.with(width, signed, 5, 2, 3);
            int upper = width / 2;
            int lower = width - upper;
            String told = " of " + width + (signed ? " bits with sign" : " bits without sign");
            Due.is("all bits" + told, x.half(1, -1), upper >= 16 ? -1 : (1 << upper) - 1);
            Due.is("the lowest bit of the half" + told, x.half(1, 1L << lower), 1);
            Due.is("all bits below it" + told, x.half(1, (1L << lower) - 1), 0);
            Due.is("0" + told, x.half(1, 0), 0);
        }
    }

    @Says("The upper half of RAW v's bits (as many as WIDTH / 2, whole")
    private static void promise13EveryWidthWithSign() {
        everyWidth(true, 64);
    }

    @Says("The upper half of RAW v's bits (as many as WIDTH / 2, whole")
    private static void promise13EveryWidthWithoutSign() {
        everyWidth(false, 63);
    }

    @Says("as many as WIDTH / 2, whole")
    private static void promise13TheMiddleBitOfAnOddWidth() {
        FixedKinds x = Due.with(9, false, 1, 1, 0);
        Due.is("the middle bit", x.half(1, 16), 0);
        Due.is("the one above it", x.half(1, 32), 1);
        Due.is("the highest one", x.half(1, 256), 8);
    }

    @Says("16 at most, the lowest of them")
    private static void promise13SixteenAtMost() {
        FixedKinds x = Due.with(34, true, 1, 1, 0);
        x.kind(64, true, 1, 1, 0);
        x.kind(63, false, 1, 1, 0);
        Due.is("bit 33 of 34", x.half(1, -1L << 33), 0);
        Due.is("bit 31 of 34", x.half(1, 1L << 31), 1 << 14);
        Due.is("bits 32 to 47 of 64", x.half(2, 0x1234_5678_0000_0000L), 0x5678);
        Due.is("bit 48 of 64", x.half(2, 1L << 48), 0);
        Due.is("bit 63 of 64", x.half(2, MIN), 0);
        Due.is("bit 48 of 63", x.half(3, 1L << 48), 0);
        Due.is("bit 46 of 63", x.half(3, 1L << 46), 1 << 14);
    }

    @Says("with the sign that 16 bits give")
    private static void promise13TheSignOfSixteenBits() {
        FixedKinds x = Due.with(32, true, 1, 1, 0);
        Due.is("the least of 32 bits", x.half(1, -1L << 31), -32768);
        Due.is("the greatest of 32 bits", x.half(1, (1L << 31) - 1), 32767);
        x.kind(32, false, 1, 1, 0);
        Due.is("bit 31 without sign", x.half(2, 1L << 31), -32768);
        x.kind(33, true, 1, 1, 0);
        Due.is("the least of 33 bits", x.half(3, -1L << 32), -32768);
        x.kind(34, true, 1, 1, 0);
        Due.is("bit 32 of 34", x.half(4, 1L << 32), -32768);
        x.kind(64, true, 1, 1, 0);
        Due.is("bit 47 of 64", x.half(5, 1L << 47), -32768);
    }

    @Says("with the sign that 16 bits give")
    private static void promise13FewerBitsHaveNoSign() {
        FixedKinds x = Due.with(8, true, 1, 1, 0);
        Due.is("the least of 8 bits", x.half(1, -128), 8);
        Due.is("-1 of 8 bits", x.half(1, -1), 15);
        x.kind(31, true, 1, 1, 0);
        Due.is("the least of 31 bits", x.half(2, -1L << 30), 16384);
        Due.is("-1 of 31 bits", x.half(2, -1), 32767);
        x.kind(30, true, 1, 1, 0);
        Due.is("-1 of 30 bits", x.half(3, -1), 32767);
    }

    @Says("A number told as RAW that is none is BROUGHT IN")
    private static void promise13BroughtIn() {
        FixedKinds x = Due.with(8, true, 1, 1, 0);
        Due.is("0xF30", x.half(1, 0xF30), 3);
        Due.is("MIN", x.half(1, MIN), 0);
        Due.is("MAX", x.half(1, MAX), 15);
        x.kind(31, false, 1, 1, 0);
        Due.is("bit 31 of 31", x.half(2, 1L << 31), 0);
    }

    @Says("A call whose kind there is not answers 0")
    private static void promise13NoKind() {
        FixedKinds x = Due.with(8, true, 1, 1, 0);
        int[] numbers = {0, -1, 2, 40, 41, Integer.MIN_VALUE, Integer.MAX_VALUE};
        for (int kind : numbers) {
            Due.is("half of kind " + kind, x.half(kind, -1), 0);
        }
    }

    public static void main(String[] args) {
        Due.run(Promise13Test.class);
    }
}
