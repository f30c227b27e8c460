/** Promise 5, convert(), and with it how a value is PUT into a kind. */
public final class Promise5Test {
    private static final long MIN = Long.MIN_VALUE;
    private static final long MAX = Long.MAX_VALUE;
    private static final int SATURATE = 0;
    private static final int WRAP = 1;
    private static final int REFUSE = 2;
    private static final int TOWARDS_ZERO = 0;
    private static final int DOWNWARDS = 1;
    private static final int HALF_AWAY = 2;
    private static final int HALF_EVEN = 3;

    // Kind 1 has whole numbers of 8 bits, kind 2 quarters of 16.
    private static FixedKinds quarters(boolean signed, int overflow, int rounding) {
        FixedKinds x = Due.with(8, signed, 1, 1, 0);
        Due.is("kind 2", x.kind(16, true, 1, 4, 0), 2);
        Due.is("rule()", x.rule(1, overflow, rounding), 1);
        return x;
    }

    private static void rounds(int rounding, long[] wants) {
        long[] told = {-14, -12, -10, -7, -6, -5, -4, -3, -2, -1, 0, 1, 2, 3, 4, 5, 6, 7, 10, 12, 14};
        FixedKinds x = quarters(true, SATURATE, rounding);
        for (int i = 0; i < told.length; i++) {
            Due.is(told[i] + "/4 with ROUNDING " + rounding, x.convert(2, told[i], 1), wants[i]);
            Due.is("lost() by " + told[i] + "/4", x.lost(), told[i] % 4 != 0);
        }
    }

    @Says("0 towards 0")
    private static void promise5TowardsZero() {
        rounds(TOWARDS_ZERO, new long[] {-3, -3, -2, -1, -1, -1, -1, 0, 0, 0, 0, 0, 0, 0, 1, 1, 1, 1, 2, 3, 3});
    }

    @Says("1 downwards")
    private static void promise5Downwards() {
        rounds(DOWNWARDS, new long[] {-4, -3, -3, -2, -2, -2, -1, -1, -1, -1, 0, 0, 0, 0, 1, 1, 1, 1, 2, 3, 3});
    }

    @Says("2 to the nearest (a half away from 0)")
    private static void promise5HalfAwayFromZero() {
        rounds(HALF_AWAY, new long[] {-4, -3, -3, -2, -2, -1, -1, -1, -1, 0, 0, 0, 1, 1, 1, 1, 2, 2, 3, 3, 4});
    }

    @Says("3 to the nearest (a half to the even one)")
    private static void promise5HalfToTheEvenOne() {
        rounds(HALF_EVEN, new long[] {-4, -3, -2, -2, -2, -1, -1, -1, 0, 0, 0, 0, 0, 1, 1, 1, 2, 2, 2, 3, 4});
    }

    @Says("(value - OFFSET) / SLOPE is rounded to a whole number")
    private static void promise5RoundsTheRawNumberNotTheValue() {
        // Value 0 lies one and a half steps of 2 above the offset -3, and below the offset 3.
        long[] above = {1, 1, 2, 2};
        long[] below = {-1, -2, -2, -2};
        for (int rounding = 0; rounding <= 3; rounding++) {
            FixedKinds x = Due.with(8, true, 1, 1, 0);
            x.kind(8, true, 2, 1, -3);
            x.kind(8, true, 2, 1, 3);
            x.rule(2, SATURATE, rounding);
            x.rule(3, SATURATE, rounding);
            Due.withLoss("3/2 with ROUNDING " + rounding, x, x.convert(1, 0, 2), above[rounding]);
            Due.withLoss("-3/2 with ROUNDING " + rounding, x, x.convert(1, 0, 3), below[rounding]);
            Due.exactly("2 with ROUNDING " + rounding, x, x.convert(1, 1, 2), 2);
            Due.exactly("-1 with ROUNDING " + rounding, x, x.convert(1, 1, 3), -1);
        }
    }

    @Says("with sign from -2^(WIDTH - 1) to 2^(WIDTH - 1) - 1")
    private static void promise5EndsWithSign() {
        for (int width = 8; width <= 63; width++) {
            FixedKinds x = Due.with(width, true, 1, 1, 0);
            x.kind(64, true, 1, 1, 0);
            long greatest = (1L << (width - 1)) - 1;
            Due.exactly("the greatest of " + width, x, x.convert(2, greatest, 1), greatest);
            Due.exactly("the least of " + width, x, x.convert(2, -greatest - 1, 1), -greatest - 1);
            Due.withLoss("above " + width, x, x.convert(2, greatest + 1, 1), greatest);
            Due.withLoss("below " + width, x, x.convert(2, -greatest - 2, 1), -greatest - 1);
        }
    }

    @Says("without from 0 to 2^WIDTH - 1")
    private static void promise5EndsWithoutSign() {
        for (int width = 8; width <= 62; width++) {
            FixedKinds x = Due.with(width, false, 1, 1, 0);
            x.kind(64, true, 1, 1, 0);
            long greatest = (1L << width) - 1;
            Due.exactly("the greatest of " + width, x, x.convert(2, greatest, 1), greatest);
            Due.exactly("the least of " + width, x, x.convert(2, 0, 1), 0);
            Due.withLoss("above " + width, x, x.convert(2, greatest + 1, 1), greatest);
            Due.withLoss("below " + width, x, x.convert(2, -1, 1), 0);
        }
    }

    // Kind 2 goes in steps of 2, so that its numbers reach beyond those of 63 and 64 bits.
    @Says("If that is beyond the RAW numbers")
    private static void promise5EndsOfTheWidest() {
        FixedKinds x = Due.with(63, false, 1, 1, 0);
        x.kind(64, true, 2, 1, 0);
        x.kind(64, true, 1, 1, 0);
        Due.exactly("2^63 - 2 without sign", x, x.convert(2, MAX / 2, 1), MAX - 1);
        Due.withLoss("2^63 without sign", x, x.convert(2, MAX / 2 + 1, 1), MAX);
        Due.withLoss("-2 without sign", x, x.convert(2, -1, 1), 0);
        Due.exactly("2^63 - 2 with sign", x, x.convert(2, MAX / 2, 3), MAX - 1);
        Due.withLoss("2^63 with sign", x, x.convert(2, MAX / 2 + 1, 3), MAX);
        Due.exactly("-2^63 with sign", x, x.convert(2, MIN / 2, 3), MIN);
        Due.withLoss("-2^63 - 2 with sign", x, x.convert(2, MIN / 2 - 1, 3), MIN);
        Due.withLoss("2^64 - 2 with sign", x, x.convert(2, MAX, 3), MAX);
        Due.withLoss("-2^64 with sign", x, x.convert(2, MIN, 3), MIN);
    }

    @Says("SATURATE takes the nearest RAW one")
    private static void promise5Saturate() {
        FixedKinds x = quarters(true, SATURATE, TOWARDS_ZERO);
        Due.exactly("127", x, x.convert(2, 4 * 127, 1), 127);
        Due.withLoss("128", x, x.convert(2, 4 * 128, 1), 127);
        Due.withLoss("far above", x, x.convert(2, 32767, 1), 127);
        Due.exactly("-128", x, x.convert(2, -4 * 128, 1), -128);
        Due.withLoss("-129", x, x.convert(2, -4 * 129, 1), -128);
        Due.withLoss("far below", x, x.convert(2, -32768, 1), -128);
        FixedKinds y = quarters(false, SATURATE, TOWARDS_ZERO);
        Due.exactly("255 without sign", y, y.convert(2, 4 * 255, 1), 255);
        Due.withLoss("256 without sign", y, y.convert(2, 4 * 256, 1), 255);
        Due.withLoss("-1 without sign", y, y.convert(2, -4, 1), 0);
    }

    @Says("WRAP the RAW one with the same lowest WIDTH bits")
    private static void promise5Wrap() {
        FixedKinds x = quarters(true, WRAP, TOWARDS_ZERO);
        Due.exactly("127", x, x.convert(2, 4 * 127, 1), 127);
        Due.withLoss("128", x, x.convert(2, 4 * 128, 1), -128);
        Due.withLoss("256", x, x.convert(2, 4 * 256, 1), 0);
        Due.withLoss("383", x, x.convert(2, 4 * 383, 1), 127);
        Due.exactly("-128", x, x.convert(2, -4 * 128, 1), -128);
        Due.withLoss("-129", x, x.convert(2, -4 * 129, 1), 127);
        Due.withLoss("-256", x, x.convert(2, -4 * 256, 1), 0);
        FixedKinds y = quarters(false, WRAP, TOWARDS_ZERO);
        Due.exactly("255 without sign", y, y.convert(2, 4 * 255, 1), 255);
        Due.withLoss("256 without sign", y, y.convert(2, 4 * 256, 1), 0);
        Due.withLoss("1000 without sign", y, y.convert(2, 4 * 1000, 1), 1000 - 3 * 256);
        Due.withLoss("-1 without sign", y, y.convert(2, -4, 1), 255);
        Due.withLoss("-256 without sign", y, y.convert(2, -4 * 256, 1), 0);
        Due.withLoss("-257 without sign", y, y.convert(2, -4 * 257, 1), 255);
    }

    @Says("WRAP the RAW one with the same lowest WIDTH bits")
    private static void promise5WrapFarBeyondALong() {
        FixedKinds x = Due.with(64, true, 1000, 1, 7);
        x.kind(13, true, 1, 1000, 0);
        x.kind(63, false, 1, 1000, 0);
        x.kind(64, true, 1, 1000, 0);
        for (int kind = 2; kind <= 4; kind++) {
            x.rule(kind, WRAP, TOWARDS_ZERO);
        }
        // (MAX * 1000 + 7) * 1000 is -10^6 + 7000 in its lowest 63 bits; MIN is 7000 there.
        Due.withLoss("MAX in 13 bits", x, x.convert(1, MAX, 2), -993000 + 121 * 8192);
        Due.withLoss("MAX in 63 bits", x, x.convert(1, MAX, 3), MAX - 992999);
        Due.withLoss("MAX in 64 bits", x, x.convert(1, MAX, 4), -993000);
        Due.withLoss("MIN in 13 bits", x, x.convert(1, MIN, 2), 7000 - 8192);
        Due.withLoss("MIN in 63 bits", x, x.convert(1, MIN, 3), 7000);
        Due.withLoss("MIN in 64 bits", x, x.convert(1, MIN, 4), 7000);
    }

    @Says("REFUSE 0")
    private static void promise5Refuse() {
        FixedKinds x = quarters(true, REFUSE, TOWARDS_ZERO);
        Due.exactly("127", x, x.convert(2, 4 * 127, 1), 127);
        Due.withLoss("128", x, x.convert(2, 4 * 128, 1), 0);
        Due.exactly("-128", x, x.convert(2, -4 * 128, 1), -128);
        Due.withLoss("-129", x, x.convert(2, -4 * 129, 1), 0);
        FixedKinds y = quarters(false, REFUSE, TOWARDS_ZERO);
        Due.exactly("255 without sign", y, y.convert(2, 4 * 255, 1), 255);
        Due.withLoss("256 without sign", y, y.convert(2, 4 * 256, 1), 0);
        Due.withLoss("-1 without sign", y, y.convert(2, -4, 1), 0);
    }

    @Says("REFUSE 0")
    private static void promise5RefuseAnswersRawZero() {
        FixedKinds x = Due.with(16, true, 1, 1, 0);
        x.kind(8, true, 1, 1, 5);
        x.kind(8, false, 1, 1, 1000);
        x.rule(2, REFUSE, TOWARDS_ZERO);
        x.rule(3, REFUSE, TOWARDS_ZERO);
        Due.withLoss("above, with an offset", x, x.convert(1, 133, 2), 0);
        Due.withLoss("below, with an offset", x, x.convert(1, -124, 2), 0);
        Due.withLoss("value 0, where it is beyond", x, x.convert(1, 0, 3), 0);
        Due.exactly("the offset itself", x, x.convert(1, 1000, 3), 0);
    }

    @Says("If that is beyond the RAW numbers")
    private static void promise5RoundedBackIsNotBeyond() {
        for (int overflow = SATURATE; overflow <= REFUSE; overflow++) {
            FixedKinds x = quarters(true, overflow, TOWARDS_ZERO);
            Due.withLoss("127.75 towards 0", x, x.convert(2, 4 * 127 + 3, 1), 127);
            Due.withLoss("-128.75 towards 0", x, x.convert(2, -4 * 128 - 3, 1), -128);
            x.rule(1, overflow, DOWNWARDS);
            Due.withLoss("127.75 downwards", x, x.convert(2, 4 * 127 + 3, 1), 127);
            x.rule(1, overflow, HALF_AWAY);
            Due.withLoss("127.25 to the nearest", x, x.convert(2, 4 * 127 + 1, 1), 127);
            Due.withLoss("-128.25 to the nearest", x, x.convert(2, -4 * 128 - 1, 1), -128);
            x.rule(1, overflow, HALF_EVEN);
            Due.withLoss("-128.5 to the even one", x, x.convert(2, -4 * 128 - 2, 1), -128);
            FixedKinds y = quarters(false, overflow, TOWARDS_ZERO);
            Due.withLoss("-0.75 towards 0, without sign", y, y.convert(2, -3, 1), 0);
        }
    }

    @Says("If that is beyond the RAW numbers")
    private static void promise5RoundedAwayIsBeyond() {
        long[] above = {127, -128, 0};
        long[] below = {-128, 127, 0};
        long[] belowZero = {0, 255, 0};
        for (int overflow = SATURATE; overflow <= REFUSE; overflow++) {
            FixedKinds x = quarters(true, overflow, HALF_AWAY);
            Due.withLoss("127.5, a half away", x, x.convert(2, 4 * 127 + 2, 1), above[overflow]);
            Due.withLoss("-128.5, a half away", x, x.convert(2, -4 * 128 - 2, 1), below[overflow]);
            x.rule(1, overflow, HALF_EVEN);
            Due.withLoss("127.5, to the even one", x, x.convert(2, 4 * 127 + 2, 1), above[overflow]);
            Due.withLoss("-128.75, to the nearest", x, x.convert(2, -4 * 128 - 3, 1), below[overflow]);
            x.rule(1, overflow, DOWNWARDS);
            Due.withLoss("-128.25 downwards", x, x.convert(2, -4 * 128 - 1, 1), below[overflow]);
            FixedKinds y = quarters(false, overflow, DOWNWARDS);
            Due.withLoss("-0.25 downwards, without sign", y, y.convert(2, -1, 1), belowZero[overflow]);
        }
    }

    @Says("Something is LOST if the number was not whole before it was rounded, or was beyond.")
    private static void promise5Lost() {
        for (int overflow = SATURATE; overflow <= REFUSE; overflow++) {
            for (int rounding = TOWARDS_ZERO; rounding <= HALF_EVEN; rounding++) {
                FixedKinds x = quarters(true, overflow, rounding);
                String told = " with rules " + overflow + ", " + rounding;
                x.convert(2, 1, 1);
                Due.is("lost() by not whole" + told, x.lost(), true);
                x.convert(2, 4, 1);
                Due.is("lost() by whole" + told, x.lost(), false);
                x.convert(2, 4 * 128, 1);
                Due.is("lost() by beyond" + told, x.lost(), true);
                x.convert(2, 0, 1);
                Due.is("lost() by 0" + told, x.lost(), false);
                x.convert(2, -4 * 200 - 1, 1);
                Due.is("lost() by both" + told, x.lost(), true);
                x.convert(2, -4 * 128, 1);
                Due.is("lost() by the least" + told, x.lost(), false);
            }
        }
    }

    @Says("Something is LOST if the number was not whole before it was rounded")
    private static void promise5AThousandthOfTheWidestIsLost() {
        FixedKinds x = Due.with(64, true, 1, 1000, 0);
        x.kind(64, true, 1, 1, 0);
        Due.withLoss("MAX thousandths", x, x.convert(1, MAX, 2), MAX / 1000);
        Due.exactly("whole ones", x, x.convert(1, MAX - 807, 2), MAX / 1000);
        Due.withLoss("and one more", x, x.convert(1, MAX - 806, 2), MAX / 1000);
    }

    @Says("A number told as RAW that is none is BROUGHT IN")
    private static void promise5BroughtInWithSign() {
        FixedKinds x = Due.with(8, true, 1, 1, 0);
        long[] told = {128, 255, 256, -129, -256, MIN, MAX, 65536 + 127, (1L << 40) - 128, 127, -128};
        long[] wants = {-128, -1, 0, 127, 0, 0, -1, 127, -128, 127, -128};
        for (int i = 0; i < told.length; i++) {
            Due.exactly("8 bits of " + told[i], x, x.convert(1, told[i], 1), wants[i]);
        }
    }

    @Says("A number told as RAW that is none is BROUGHT IN")
    private static void promise5BroughtInWithoutSign() {
        FixedKinds x = Due.with(8, false, 1, 1, 0);
        long[] told = {128, 255, 256, -1, -128, -256, MIN, MAX, 65536 + 127, 0};
        long[] wants = {128, 255, 0, 255, 128, 0, 0, 255, 127, 0};
        for (int i = 0; i < told.length; i++) {
            Due.exactly("8 bits of " + told[i], x, x.convert(1, told[i], 1), wants[i]);
        }
        x.kind(63, false, 1, 1, 0);
        Due.exactly("63 bits of MIN", x, x.convert(2, MIN, 2), 0);
        Due.exactly("63 bits of -1", x, x.convert(2, -1, 2), MAX);
    }

    @Says("A number told as RAW that is none is BROUGHT IN")
    private static void promise5EveryNumberIsRawIn64Bits() {
        FixedKinds x = Due.with(64, true, 1, 1, 0);
        x.kind(63, true, 1, 1, 0);
        long[] told = {MIN, MAX, -1, 0, 1, MIN / 2 - 1};
        for (long v : told) {
            Due.exactly("64 bits of " + v, x, x.convert(1, v, 1), v);
        }
        Due.exactly("63 bits of MAX", x, x.convert(2, MAX, 2), -1);
        Due.exactly("63 bits of MAX / 2 + 1", x, x.convert(2, MAX / 2 + 1, 2), MIN / 2);
    }

    @Says("LOST is told of that")
    private static void promise5TheTargetsRulesCount() {
        FixedKinds x = quarters(true, WRAP, DOWNWARDS);
        x.rule(2, REFUSE, HALF_AWAY);
        Due.withLoss("the target WRAPs", x, x.convert(2, 4 * 128, 1), -128);
        Due.withLoss("the target rounds downwards", x, x.convert(2, 2, 1), 0);
        x.kind(8, true, 1, 4, 0);
        x.rule(3, REFUSE, HALF_AWAY);
        Due.withLoss("the other one REFUSEs", x, x.convert(1, 100, 3), 0);
    }

    @Says("The value of v in a kind PUT into another one")
    private static void promise5AmongSlopesAndOffsets() {
        FixedKinds x = Due.with(8, true, 1, 8, 0);
        x.kind(16, false, 3, 7, -100);
        x.kind(64, true, 1, 1000, 1000000);
        x.kind(64, true, 1000, 1, -1000000);
        Due.withLoss("12.5 in 3/7 from -100 on", x, x.convert(1, 100, 2), 262);
        Due.exactly("into itself", x, x.convert(2, 777, 2), 777);
        Due.exactly("-1000000 in thousandths from 1000000 on", x, x.convert(4, 0, 3), -2000000000);
        Due.exactly("and back", x, x.convert(3, -2000000000, 4), 0);
        Due.exactly("1000000 in thousands from -1000000 on", x, x.convert(3, 0, 4), 2000);
    }

    @Says("A call whose kind there is not answers 0")
    private static void promise5NoKind() {
        int[] numbers = {0, -1, 3, 40, 41, Integer.MIN_VALUE, Integer.MAX_VALUE};
        FixedKinds x = quarters(true, SATURATE, TOWARDS_ZERO);
        for (int kind : numbers) {
            Due.is("from kind " + kind, x.convert(kind, 8, 1), 0);
            Due.is("to kind " + kind, x.convert(2, 8, kind), 0);
            Due.is("from and to kind " + kind, x.convert(kind, 8, kind), 0);
        }
    }

    private static FixedKinds used(boolean withLoss) {
        FixedKinds x = quarters(true, WRAP, HALF_EVEN);
        x.text(2, 5);
        x.convert(2, withLoss ? 1 : 4, 1);
        return x;
    }

    @Says("A call whose kind there is not answers 0")
    private static void promise5WhatIsNotDoneChangesNothing() {
        for (boolean withLoss : new boolean[] {false, true}) {
            FixedKinds x = used(withLoss);
            x.convert(3, 1, 1);
            x.convert(2, 1, 3);
            x.convert(0, 4, 0);
            Due.same("what was not done", x, used(withLoss));
        }
    }

    public static void main(String[] args) {
        Due.run(Promise5Test.class);
    }
}
