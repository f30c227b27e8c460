/** Promise 4, apply(). */
public final class Promise4Test {
    private static final long MIN = Long.MIN_VALUE;
    private static final long MAX = Long.MAX_VALUE;
    private static final int SUM = 0;
    private static final int DIFFERENCE = 1;
    private static final int PRODUCT = 2;
    private static final int QUOTIENT = 3;
    private static final int WRAP = 1;
    private static final int REFUSE = 2;

    @Says("The sum (op 0), difference (1), product (2) or quotient (3) of the values")
    private static void promise4TheFourOps() {
        // Tenths, from 5 on: 100 is 15, 150 is 20, 10 is 6.
        FixedKinds x = Due.with(16, true, 1, 10, 5);
        Due.exactly("15 + 15", x, x.apply(SUM, 1, 100, 1, 100), 250);
        Due.exactly("15 - 20", x, x.apply(DIFFERENCE, 1, 100, 1, 150), -100);
        Due.exactly("15 * 6", x, x.apply(PRODUCT, 1, 100, 1, 10), 850);
        Due.exactly("15 / 6", x, x.apply(QUOTIENT, 1, 100, 1, 10), -25);
        Due.exactly("15 / -3", x, x.apply(QUOTIENT, 1, 100, 1, -80), -100);
        Due.exactly("-6 / -3", x, x.apply(QUOTIENT, 1, -110, 1, -80), -30);
        Due.exactly("15 * -3", x, x.apply(PRODUCT, 1, 100, 1, -80), -500);
    }

    @Says("of a in its kind and b in the other one, PUT into the first kind")
    private static void promise4TwoKinds() {
        FixedKinds x = Due.with(16, true, 1, 10, 5);
        x.kind(13, false, 3, 7, -100);
        // 5.1 + 3/7 - 100 = -94.47..: less 5, times 10; and plus 100, times 7/3.
        Due.withLoss("into tenths", x, x.apply(SUM, 1, 1, 2, 1), -994);
        Due.withLoss("into sevenths", x, x.apply(SUM, 2, 1, 1, 1), 12);
        Due.withLoss("the other way round", x, x.apply(DIFFERENCE, 2, 1, 1, 1), 0);
        Due.exactly("whole", x, x.apply(SUM, 1, 0, 2, 7), -970);
    }

    @Says("PUT into the first kind")
    private static void promise4TheFirstKindsRulesCount() {
        FixedKinds x = Due.with(8, true, 1, 1, 0);
        x.kind(8, true, 1, 2, 0);
        x.rule(1, WRAP, 1);
        x.rule(2, REFUSE, 2);
        Due.is("127 + 127/2, WRAP, downwards", x.apply(SUM, 1, 127, 2, 127), 190 - 256);
        Due.is("-1 + 1/2, downwards", x.apply(SUM, 1, -1, 2, 1), -1);
        Due.is("1/2 + 127, REFUSE", x.apply(SUM, 2, 1, 1, 127), 0);
    }

    @Says("A number told as RAW that is none is BROUGHT IN")
    private static void promise4BothAreBroughtIn() {
        FixedKinds x = Due.with(8, true, 1, 1, 0);
        x.kind(9, false, 1, 1, 0);
        Due.exactly("128 is -128", x, x.apply(SUM, 1, 128, 1, 1), -127);
        Due.exactly("-129 is 127", x, x.apply(DIFFERENCE, 1, -129, 1, 27), 100);
        Due.exactly("512 is 0", x, x.apply(SUM, 1, 7, 2, 512), 7);
        Due.exactly("-511 is 1", x, x.apply(QUOTIENT, 1, 7, 2, -511), 7);
        Due.exactly("MIN is 0", x, x.apply(SUM, 1, MIN, 2, MIN), 0);
        Due.exactly("MAX is -1 and 511", x, x.apply(QUOTIENT, 1, 511, 1, MAX), 1);
    }

    @Says("SATURATE takes the nearest RAW one")
    private static void promise4SaturatedEnds() {
        FixedKinds x = Due.with(64, true, 1, 1, 0);
        Due.exactly("MAX - 1 + 1", x, x.apply(SUM, 1, MAX - 1, 1, 1), MAX);
        Due.withLoss("MAX + 1", x, x.apply(SUM, 1, MAX, 1, 1), MAX);
        Due.exactly("MIN + 1 - 1", x, x.apply(DIFFERENCE, 1, MIN + 1, 1, 1), MIN);
        Due.withLoss("MIN - 1", x, x.apply(DIFFERENCE, 1, MIN, 1, 1), MIN);
        Due.withLoss("MIN * -1", x, x.apply(PRODUCT, 1, MIN, 1, -1), MAX);
        Due.withLoss("MIN * MIN", x, x.apply(PRODUCT, 1, MIN, 1, MIN), MAX);
        Due.withLoss("MIN * MAX", x, x.apply(PRODUCT, 1, MIN, 1, MAX), MIN);
        Due.withLoss("MIN / -1", x, x.apply(QUOTIENT, 1, MIN, 1, -1), MAX);
        Due.exactly("MIN / 1", x, x.apply(QUOTIENT, 1, MIN, 1, 1), MIN);
        Due.exactly("MAX / -1", x, x.apply(QUOTIENT, 1, MAX, 1, -1), -MAX);
        Due.exactly("2^62 * -2", x, x.apply(PRODUCT, 1, 1L << 62, 1, -2), MIN);
        Due.withLoss("2^62 * 2", x, x.apply(PRODUCT, 1, 1L << 62, 1, 2), MAX);
    }

    @Says("WRAP the RAW one with the same lowest WIDTH bits")
    private static void promise4WrappedEnds() {
        FixedKinds x = Due.with(64, true, 1, 1, 0);
        x.rule(1, WRAP, 0);
        Due.withLoss("MAX + 1", x, x.apply(SUM, 1, MAX, 1, 1), MIN);
        Due.withLoss("MIN - 1", x, x.apply(DIFFERENCE, 1, MIN, 1, 1), MAX);
        Due.withLoss("MIN * -1", x, x.apply(PRODUCT, 1, MIN, 1, -1), MIN);
        Due.withLoss("MIN * MIN", x, x.apply(PRODUCT, 1, MIN, 1, MIN), 0);
        Due.withLoss("MAX * MAX", x, x.apply(PRODUCT, 1, MAX, 1, MAX), 1);
        Due.withLoss("MIN * MAX", x, x.apply(PRODUCT, 1, MIN, 1, MAX), MIN);
        Due.withLoss("MIN / -1", x, x.apply(QUOTIENT, 1, MIN, 1, -1), MIN);
    }

    @Says("REFUSE 0")
    private static void promise4RefusedEnds() {
        FixedKinds x = Due.with(64, true, 1, 1, 0);
        x.rule(1, REFUSE, 0);
        Due.exactly("MAX - 1 + 1", x, x.apply(SUM, 1, MAX - 1, 1, 1), MAX);
        Due.withLoss("MAX + 1", x, x.apply(SUM, 1, MAX, 1, 1), 0);
        Due.withLoss("MIN - 1", x, x.apply(DIFFERENCE, 1, MIN, 1, 1), 0);
        Due.withLoss("MIN * MIN", x, x.apply(PRODUCT, 1, MIN, 1, MIN), 0);
        Due.withLoss("MIN / -1", x, x.apply(QUOTIENT, 1, MIN, 1, -1), 0);
    }

    @Says("Its VALUE is RAW * SLOPE + OFFSET, exactly.")
    private static void promise4TheWidestNumbers() {
        FixedKinds x = Due.with(64, true, 1000, 999, -1000000);
        // A row a way of ROUNDING: MIN * MIN, MIN * MAX, MAX * MAX; MIN / MIN, MIN / MAX.
        long[][] wants = {
            {738609370320700766L, 8493997269178569314L, 720144161039708223L, 999000, 998999},
            {738609370320700766L, 8493997269178569313L, 720144161039708223L, 999000, 998999},
            {738609370320700766L, 8493997269178569314L, 720144161039708223L, 999001, 998999},
            {738609370320700766L, 8493997269178569314L, 720144161039708223L, 999001, 998999},
        };
        for (int rounding = 0; rounding <= 3; rounding++) {
            x.rule(1, WRAP, rounding);
            String told = " with ROUNDING " + rounding;
            Due.withLoss("MIN * MIN" + told, x, x.apply(PRODUCT, 1, MIN, 1, MIN), wants[rounding][0]);
            Due.withLoss("MIN * MAX" + told, x, x.apply(PRODUCT, 1, MIN, 1, MAX), wants[rounding][1]);
            Due.withLoss("MAX * MAX" + told, x, x.apply(PRODUCT, 1, MAX, 1, MAX), wants[rounding][2]);
            Due.withLoss("MIN / MIN" + told, x, x.apply(QUOTIENT, 1, MIN, 1, MIN), wants[rounding][3]);
            Due.withLoss("MIN / MAX" + told, x, x.apply(QUOTIENT, 1, MIN, 1, MAX), wants[rounding][4]);
        }
    }

    @Says("2 to the nearest (a half away from 0), 3 to the nearest (a half to the even one)")
    private static void promise4HalvesOfTheWidest() {
        FixedKinds x = Due.with(64, true, 1, 1, 0);
        for (int rounding = 2; rounding <= 3; rounding++) {
            x.rule(1, 0, rounding);
            Due.withLoss("less than a half", x, x.apply(QUOTIENT, 1, MAX / 2, 1, MAX), 0);
            Due.withLoss("more than a half", x, x.apply(QUOTIENT, 1, MAX / 2 + 1, 1, MAX), 1);
            Due.withLoss("less, below 0", x, x.apply(QUOTIENT, 1, MAX / 2, 1, -MAX), 0);
            Due.withLoss("more, below 0", x, x.apply(QUOTIENT, 1, MAX / 2 + 1, 1, -MAX), -1);
            Due.withLoss("a half", x, x.apply(QUOTIENT, 1, 1L << 62, 1, MIN), rounding == 2 ? -1 : 0);
            Due.withLoss("a half above MAX / 2", x, x.apply(QUOTIENT, 1, MAX, 1, 2), 1L << 62);
            Due.withLoss("a half above an even one", x, x.apply(QUOTIENT, 1, MAX - 2, 1, 2),
                    rounding == 2 ? (1L << 62) - 1 : (1L << 62) - 2);
        }
    }

    @Says("Something is LOST if the number was not whole before it was rounded")
    private static void promise4BesideAWholeQuotient() {
        FixedKinds x = Due.with(64, true, 1, 1, 0);
        long[] divisors = {3, 0xFFFF, 0x10001, 0x10000FFFFL, 0x1000000FFFFL, (1L << 47) - 1};
        for (long divisor : divisors) {
            long whole = 0xFFFF * divisor;
            String told = " / " + divisor;
            Due.withLoss(whole - 1 + told, x, x.apply(QUOTIENT, 1, whole - 1, 1, divisor), 0xFFFE);
            Due.exactly(whole + told, x, x.apply(QUOTIENT, 1, whole, 1, divisor), 0xFFFF);
            Due.withLoss(whole + 1 + told, x, x.apply(QUOTIENT, 1, whole + 1, 1, divisor), 0xFFFF);
            Due.withLoss(1 - whole + told, x, x.apply(QUOTIENT, 1, 1 - whole, 1, divisor), -0xFFFE);
            Due.exactly(-whole + told, x, x.apply(QUOTIENT, 1, -whole, 1, divisor), -0xFFFF);
        }
    }

    private static long nearest(long a, long b) {
        long rest = a % b;
        return a / b + (rest > b - rest ? 1 : 0);
    }

    @Says("2 to the nearest")
    private static void promise4QuotientsOfWideDivisors() {
        FixedKinds x = Due.with(64, true, 1, 1, 0);
        long[] dividends = {0xFFFF00000000L, 0xFFFF0000000000L, 0x7FFF800000000000L, MAX, MAX - 0xFFFF};
        long[] divisors = {0x10001, 0x1FFFF, 0x10000FFFFL, 0x1FFFFFFFFL, 0x1000000FFFFL, 0x10000FFFFFFFFL};
        for (long a : dividends) {
            for (long b : divisors) {
                x.rule(1, 0, 0);
                Due.is(a + " / " + b, x.apply(QUOTIENT, 1, a, 1, b), a / b);
                x.rule(1, 0, 2);
                Due.is(a + " / " + b + " to the nearest", x.apply(QUOTIENT, 1, a, 1, b), nearest(a, b));
            }
        }
    }

    // Kind 1 has halves from 3 on and is 0 at -6, kind 2 is 0 at -5.
    private static FixedKinds forQuotients(int overflow) {
        FixedKinds x = Due.with(8, true, 1, 2, 3);
        x.kind(8, true, 1, 1, 5);
        x.rule(1, overflow, 0);
        return x;
    }

    @Says("its greatest RAW number if the value of a is above 0")
    private static void promise4AboveZeroByZero() {
        FixedKinds x = forQuotients(0);
        Due.withLoss("3 / 0", x, x.apply(QUOTIENT, 1, 0, 2, -5), 127);
        Due.withLoss("1/2 / 0", x, x.apply(QUOTIENT, 1, -5, 2, -5), 127);
        Due.withLoss("its greatest value / 0", x, x.apply(QUOTIENT, 1, 127, 2, -5), 127);
        x.kind(8, false, 1, 1000, 0);
        Due.withLoss("1/1000 / 0", x, x.apply(QUOTIENT, 3, 1, 2, -5), 255);
        x.kind(64, true, 1, 1, 1000000);
        Due.withLoss("1 / 0 in 64 bits", x, x.apply(QUOTIENT, 4, -999999, 4, -1000000), MAX);
    }

    @Says("its least one if below")
    private static void promise4BelowZeroByZero() {
        FixedKinds x = forQuotients(0);
        Due.withLoss("-1/2 / 0", x, x.apply(QUOTIENT, 1, -7, 2, -5), -128);
        Due.withLoss("its least value / 0", x, x.apply(QUOTIENT, 1, -128, 2, -5), -128);
        x.kind(8, false, 1, 1, -10);
        Due.withLoss("-1 / 0 without sign", x, x.apply(QUOTIENT, 3, 9, 2, -5), 0);
        x.kind(64, true, 1, 1, -1000000);
        Due.withLoss("-1 / 0 in 64 bits", x, x.apply(QUOTIENT, 4, 999999, 4, 1000000), MIN);
    }

    @Says("and PUTting 0 if it is 0; something is LOST")
    private static void promise4ZeroByZero() {
        FixedKinds x = forQuotients(0);
        Due.withLoss("0 / 0", x, x.apply(QUOTIENT, 1, -6, 2, -5), -6);
        Due.withLoss("0 / 0, brought in", x, x.apply(QUOTIENT, 1, 250, 2, 251), -6);
        Due.withLoss("0 / 0 in the other kind", x, x.apply(QUOTIENT, 2, -5, 1, -6), -5);
        x.kind(8, false, 1, 1, 0);
        Due.withLoss("0 / 0 without sign", x, x.apply(QUOTIENT, 3, 0, 3, 0), 0);
    }

    @Says("By a value 0")
    private static void promise4RawZeroIsNoValueZero() {
        for (int overflow = 0; overflow <= 2; overflow++) {
            FixedKinds x = forQuotients(overflow);
            // -5/5 = -1: less 3, times 2.
            Due.exactly("RAW -16 / RAW 0", x, x.apply(QUOTIENT, 1, -16, 2, 0), -8);
            Due.exactly("0 / 5", x, x.apply(QUOTIENT, 1, -6, 2, 0), -6);
        }
    }

    @Says("By a value 0")
    private static void promise4OnlyAQuotientCares() {
        for (int overflow = 0; overflow <= 2; overflow++) {
            FixedKinds x = forQuotients(overflow);
            Due.exactly("3 + 0", x, x.apply(SUM, 1, 0, 2, -5), 0);
            Due.exactly("3 - 0", x, x.apply(DIFFERENCE, 1, 0, 2, -5), 0);
            Due.exactly("3 * 0", x, x.apply(PRODUCT, 1, 0, 2, -5), -6);
        }
    }

    private static void throwsByZero(FixedKinds x) {
        Due.noArithmetic("3 / 0", () -> x.apply(QUOTIENT, 1, 0, 2, -5));
        Due.noArithmetic("-1/2 / 0", () -> x.apply(QUOTIENT, 1, -7, 2, -5));
        Due.noArithmetic("0 / 0", () -> x.apply(QUOTIENT, 1, -6, 2, -5));
        Due.noArithmetic("3 / 0, brought in", () -> x.apply(QUOTIENT, 1, 0, 2, 251));
    }

    @Says("otherwise ArithmeticException")
    private static void promise4WrapThrowsByZero() {
        throwsByZero(forQuotients(WRAP));
    }

    @Says("otherwise ArithmeticException")
    private static void promise4RefuseThrowsByZero() {
        throwsByZero(forQuotients(REFUSE));
    }

    @Says("if the first kind SATURATEs")
    private static void promise4TheFirstKindsRuleCountsByZero() {
        for (int overflow = 1; overflow <= 2; overflow++) {
            FixedKinds x = forQuotients(0);
            x.rule(2, overflow, 0);
            Due.withLoss("3 / 0", x, x.apply(QUOTIENT, 1, 0, 2, -5), 127);
            Due.noArithmetic("1 / 0", () -> x.apply(QUOTIENT, 2, -4, 1, -6));
        }
    }

    private static FixedKinds beforeAThrow(int overflow, boolean withLoss) {
        FixedKinds x = forQuotients(overflow);
        x.text(1, 1);
        x.convert(1, withLoss ? 1 : 0, 2);
        return x;
    }

    @Says("(and nothing changes)")
    private static void promise4AThrowChangesNothing() {
        for (int overflow = 1; overflow <= 2; overflow++) {
            for (boolean withLoss : new boolean[] {false, true}) {
                FixedKinds x = beforeAThrow(overflow, withLoss);
                throwsByZero(x);
                Due.same("a quotient by 0", x, beforeAThrow(overflow, withLoss));
            }
        }
    }

    @Says("0 if there is no such op or kind.")
    private static void promise4NoSuchOp() {
        int[] ops = {-1, 4, 256, 65536, Integer.MIN_VALUE, Integer.MAX_VALUE};
        for (int overflow = 0; overflow <= 2; overflow++) {
            FixedKinds x = forQuotients(overflow);
            for (int op : ops) {
                Due.is("op " + op, x.apply(op, 1, 5, 2, 1), 0);
                Due.is("op " + op + " by 0", x.apply(op, 1, 5, 2, -5), 0);
            }
        }
    }

    @Says("0 if there is no such op or kind.")
    private static void promise4NoSuchKind() {
        int[] numbers = {0, -1, 3, 40, 41, Integer.MIN_VALUE, Integer.MAX_VALUE};
        for (int overflow = 0; overflow <= 2; overflow++) {
            FixedKinds x = forQuotients(overflow);
            for (int kind : numbers) {
                for (int op = SUM; op <= QUOTIENT; op++) {
                    Due.is("op " + op + " in kind " + kind, x.apply(op, kind, 5, 2, 1), 0);
                    Due.is("op " + op + " with kind " + kind, x.apply(op, 1, 5, kind, 1), 0);
                }
                Due.is("a quotient by 0 in kind " + kind, x.apply(QUOTIENT, kind, 5, 2, -5), 0);
                Due.is("neither op nor kind " + kind, x.apply(4, kind, 5, kind, 1), 0);
            }
        }
    }

    @Says("0 if there is no such op or kind.")
    private static void promise4WhatIsNotDoneChangesNothing() {
        for (boolean withLoss : new boolean[] {false, true}) {
            FixedKinds x = beforeAThrow(0, withLoss);
            x.apply(4, 1, 5, 2, 1);
            x.apply(-1, 1, 5, 2, 1);
            x.apply(SUM, 3, 5, 2, 1);
            x.apply(SUM, 1, 5, 3, 1);
            x.apply(QUOTIENT, 0, 5, 2, -5);
            Due.same("what was not done", x, beforeAThrow(0, withLoss));
        }
    }

    public static void main(String[] args) {
        Due.run(Promise4Test.class);
    }
}
