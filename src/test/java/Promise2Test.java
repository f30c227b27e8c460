/** Promise 2, kind(). */
public final class Promise2Test {
    private static final long MIN = Long.MIN_VALUE;
    private static final long MAX = Long.MAX_VALUE;

    private static void refused(int width, boolean signed, long up, long down, long offset) {
        FixedKinds x = new FixedKinds();
        String call = "kind(" + width + ", " + signed + ", " + up + ", " + down + ", " + offset + ")";
        Due.is(call, x.kind(width, signed, up, down, offset), -2);
        Due.is("bound behind " + call, x.bound(1, 1), 0);
        Due.is("the kind behind " + call, x.kind(8, true, 1, 1, 0), 1);
    }

    private static FixedKinds full() {
        FixedKinds x = new FixedKinds();
        for (int i = 1; i <= 40; i++) {
            Due.is("kind " + i, x.kind(16, true, i, 1, 0), i);
        }
        return x;
    }

    @Says("KINDS are numbered from 1 on")
    private static void promise2NumbersFromOneOn() {
        FixedKinds x = Due.with(8, true, 1, 1, 0);
        Due.is("a like one", x.kind(8, true, 1, 1, 0), 2);
        Due.is("another one", x.kind(9, false, 3, 2, -1), 3);
        Due.is("there is no kind 0", x.compare(0, 0, 0, 0), -2);
        Due.is("there is no kind 4 yet", x.compare(4, 0, 4, 0), -2);
    }

    @Says("a WIDTH of 8 to 64 bits")
    private static void promise2LeastWidth() {
        FixedKinds x = Due.with(8, true, 1, 1, 0);
        Due.is("8 bits without sign", x.kind(8, false, 1, 1, 0), 2);
        Due.is("its greatest", x.bound(2, 1), 255);
        refused(7, true, 1, 1, 0);
        refused(7, false, 1, 1, 0);
    }

    @Says("a WIDTH of 8 to 64 bits")
    private static void promise2GreatestWidthWithSign() {
        FixedKinds x = Due.with(64, true, 1, 1, 0);
        Due.is("its greatest", x.bound(1, 1), MAX);
        refused(65, true, 1, 1, 0);
    }

    @Says("without at most 63")
    private static void promise2GreatestWidthWithoutSign() {
        FixedKinds x = Due.with(63, false, 1, 1, 0);
        Due.is("its greatest", x.bound(1, 1), MAX);
        Due.is("63 bits with sign", x.kind(63, true, 1, 1, 0), 2);
        refused(65, false, 1, 1, 0);
    }

    @Says("also 64 bits without sign")
    private static void promise2SixtyFourBitsWithoutSign() {
        refused(64, false, 1, 1, 0);
    }

    @Says("-2 a number is none that is told for it")
    private static void promise2FarWidths() {
        int[] widths = {0, -1, -8, 72, 128, 256 + 8, 65536 + 8, Integer.MIN_VALUE, Integer.MIN_VALUE + 8, Integer.MAX_VALUE};
        for (int width : widths) {
            refused(width, true, 1, 1, 0);
            refused(width, false, 1, 1, 0);
        }
    }

    @Says("a SLOPE up / down (1 .. 1000 each)")
    private static void promise2LeastSlope() {
        FixedKinds x = Due.with(8, true, 1, 1000, 0);
        Due.is("1/1000, below", x.physical(1, 1, 0), 1000);
        Due.is("1/1000, above", x.physical(1, 1, 1), 1);
        refused(8, true, -1, 1, 0);
        refused(8, true, 1, 0, 0);
        refused(8, true, 1, -1, 0);
        refused(8, true, -1, -1, 0);
    }

    @Says("a SLOPE up / down (1 .. 1000 each)")
    private static void promise2GreatestSlope() {
        FixedKinds x = Due.with(8, true, 1000, 1, 0);
        Due.is("1000, below", x.physical(1, 1, 0), 1);
        Due.is("1000, above", x.physical(1, 1, 1), 1000);
        refused(8, true, 1001, 1, 0);
        refused(8, true, 1, 1001, 0);
        refused(8, true, 1001, 1001, 0);
    }

    @Says("-2 a number is none that is told for it")
    private static void promise2FarSlopes() {
        long[] parts = {MIN, MIN + 1, MAX, (1L << 32) + 1, -(1L << 32) + 1, 65536 + 1, -1000};
        for (long part : parts) {
            refused(8, true, part, 1, 0);
            refused(8, true, 1, part, 0);
        }
        refused(8, true, 1L << 32, 1, 0);
        refused(8, true, 1, 1L << 32, 0);
    }

    @Says("an OFFSET (-1000000 .. 1000000)")
    private static void promise2LeastOffset() {
        FixedKinds x = Due.with(8, true, 1, 1, -1000000);
        Due.is("-1000000, behind", x.physical(1, 0, 3), -1);
        Due.is("-1000000, lowest", x.physical(1, 0, 1), (1L << 32) - 1000000);
        refused(8, true, 1, 1, -1000001);
    }

    @Says("an OFFSET (-1000000 .. 1000000)")
    private static void promise2GreatestOffset() {
        FixedKinds x = Due.with(8, true, 1, 1, 1000000);
        Due.is("1000000", x.physical(1, 0, 1), 1000000);
        refused(8, true, 1, 1, 1000001);
    }

    @Says("-2 a number is none that is told for it")
    private static void promise2FarOffsets() {
        long[] offsets = {MIN, MAX, 1L << 32, -(1L << 32), (1L << 32) + 1};
        for (long offset : offsets) {
            refused(8, true, 1, 1, offset);
        }
    }

    @Says("0 (and there is none) if up is 0")
    private static void promise2UpZero() {
        FixedKinds x = new FixedKinds();
        Due.is("up 0", x.kind(8, true, 0, 1, 0), 0);
        Due.is("up 0 at the other ends", x.kind(64, true, 0, 1000, -1000000), 0);
        Due.is("bound", x.bound(1, 1), 0);
        Due.is("compare of kind 0", x.compare(0, 0, 0, 0), -2);
        Due.is("the kind behind", x.kind(8, true, 1, 1, 0), 1);
        Due.is("up 0 with a kind", x.kind(8, true, 0, 1, 0), 0);
        Due.is("compare of kind 2", x.compare(2, 0, 2, 0), -2);
    }

    @Says("What is refused comes before that.")
    private static void promise2OutsideBeforeUpZero() {
        refused(7, true, 0, 1, 0);
        refused(65, true, 0, 1, 0);
        refused(64, false, 0, 1, 0);
        refused(8, true, 0, 0, 0);
        refused(8, true, 0, 1001, 0);
        refused(8, true, 0, 1, 1000001);
        refused(8, true, 0, 1, -1000001);
    }

    @Says("What is refused comes before that.")
    private static void promise2NoRoomBeforeUpZero() {
        Due.is("up 0 with 40 kinds", full().kind(8, true, 0, 1, 0), -4);
    }

    @Says("at most 40")
    private static void promise2FortyKinds() {
        FixedKinds x = full();
        for (int i = 1; i <= 40; i++) {
            Due.is("a value of kind " + i, x.physical(i, 1, 1), i);
        }
        Due.is("there is no kind 41", x.compare(41, 0, 41, 0), -2);
    }

    @Says("-4 there are 40")
    private static void promise2NoRoom() {
        FixedKinds x = full();
        Due.is("the 41st", x.kind(8, true, 1, 1, 0), -4);
        Due.is("the 41st again", x.kind(64, true, 1000, 1000, 1000000), -4);
        Due.is("there is no kind 41", x.compare(41, 0, 41, 0), -2);
    }

    @Says("-4 there are 40")
    private static void promise2UpZeroTakesNoRoom() {
        FixedKinds x = new FixedKinds();
        for (int i = 1; i <= 39; i++) {
            Due.is("kind " + i, x.kind(8, true, 1, 1, 0), i);
            Due.is("up 0", x.kind(8, true, 0, 1, 0), 0);
            Due.is("outside", x.kind(7, true, 1, 1, 0), -2);
        }
        Due.is("up 0 with 39 kinds", x.kind(8, true, 0, 1, 0), 0);
        Due.is("the 40th", x.kind(8, true, 1, 1, 0), 40);
        Due.is("the 41st", x.kind(8, true, 1, 1, 0), -4);
    }

    @Says("the first that fits")
    private static void promise2OutsideBeforeNoRoom() {
        FixedKinds x = full();
        Due.is("7 bits", x.kind(7, true, 1, 1, 0), -2);
        Due.is("64 bits without sign", x.kind(64, false, 1, 1, 0), -2);
        Due.is("up", x.kind(8, true, 1001, 1, 0), -2);
        Due.is("down", x.kind(8, true, 1, 0, 0), -2);
        Due.is("offset", x.kind(8, true, 1, 1, 1000001), -2);
        Due.is("down, with up 0", x.kind(8, true, 0, 0, 0), -2);
    }

    private static FixedKinds used(boolean withLoss) {
        FixedKinds x = full();
        x.rule(1, 1, 3);
        x.convert(1, 1, withLoss ? 2 : 1);
        x.text(1, 42);
        return x;
    }

    @Says("REFUSALS change nothing")
    private static void promise2RefusalsChangeNothing() {
        for (boolean withLoss : new boolean[] {false, true}) {
            FixedKinds x = used(withLoss);
            x.kind(8, true, 1, 1, 0);
            x.kind(7, true, 1, 1, 0);
            x.kind(8, true, 0, 1, 0);
            Due.same("a refused kind()", x, used(withLoss));
        }
    }

    @Says("A kind: its number")
    private static void promise2ANewKindLeavesTheOthers() {
        for (boolean withLoss : new boolean[] {false, true}) {
            FixedKinds x = Due.with(16, true, 1, 1, 0);
            Due.is("the second kind", x.kind(16, true, 1, 2, 0), 2);
            x.rule(1, 2, 1);
            x.text(1, 42);
            x.convert(2, withLoss ? 1 : 2, 1);
            Due.is("the third kind", x.kind(8, false, 1000, 1, 1000000), 3);
            Due.is("lost()", x.lost(), withLoss);
            Due.is("character 0", x.at(0), '4');
            Due.is("REFUSE stands", x.apply(0, 1, 32767, 1, 1), 0);
            Due.is("downwards stands", x.convert(2, -1, 1), -1);
        }
    }

    public static void main(String[] args) {
        Due.run(Promise2Test.class);
    }
}
