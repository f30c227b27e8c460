/** Promise 3, rule(). */
public final class Promise3Test {
    private static final int SUM = 0;
    private static final int QUOTIENT = 3;

    @Says("A kind's rules: 1.")
    private static void promise3EachRuleIsTaken() {
        long[] above = {127, -56, 0};
        long[] below = {-128, 56, 0};
        // -5/2 and 7/2, a row a way of ROUNDING.
        long[][] halves = {{-2, 3}, {-3, 3}, {-3, 4}, {-2, 4}};
        FixedKinds x = Due.with(8, true, 1, 1, 0);
        for (int overflow = 0; overflow <= 2; overflow++) {
            for (int rounding = 0; rounding <= 3; rounding++) {
                String told = " with rules " + overflow + ", " + rounding;
                Due.is("rule()" + told, x.rule(1, overflow, rounding), 1);
                Due.is("100 + 100" + told, x.apply(SUM, 1, 100, 1, 100), above[overflow]);
                Due.is("-100 + -100" + told, x.apply(SUM, 1, -100, 1, -100), below[overflow]);
                Due.is("-5/2" + told, x.apply(QUOTIENT, 1, -5, 1, 2), halves[rounding][0]);
                Due.is("7/2" + told, x.apply(QUOTIENT, 1, 7, 1, 2), halves[rounding][1]);
            }
        }
    }

    @Says("0 SATURATE (at first)")
    private static void promise3SaturateAtFirst() {
        FixedKinds x = Due.with(8, true, 1, 1, 0);
        Due.is("100 + 100", x.apply(SUM, 1, 100, 1, 100), 127);
        Due.is("-100 + -100", x.apply(SUM, 1, -100, 1, -100), -128);
    }

    @Says("0 towards 0 (at first)")
    private static void promise3TowardsZeroAtFirst() {
        FixedKinds x = Due.with(8, true, 1, 1, 0);
        Due.is("-5/3", x.apply(QUOTIENT, 1, -5, 1, 3), -1);
        Due.is("5/3", x.apply(QUOTIENT, 1, 5, 1, 3), 1);
    }

    @Says("-1 there is no kind")
    private static void promise3NoKind() {
        FixedKinds x = Due.with(8, true, 1, 1, 0);
        int[] numbers = {0, -1, 2, 40, 41, 256 + 1, Integer.MIN_VALUE, Integer.MAX_VALUE};
        for (int kind : numbers) {
            Due.is("rule of kind " + kind, x.rule(kind, 0, 0), -1);
        }
    }

    @Says("-1 there is no kind")
    private static void promise3TheFortiethKind() {
        FixedKinds x = new FixedKinds();
        for (int i = 1; i <= 40; i++) {
            x.kind(8, true, 1, 1, 0);
        }
        Due.is("rule of kind 40", x.rule(40, 2, 0), 1);
        Due.is("rule of kind 41", x.rule(41, 2, 0), -1);
        Due.is("kind 40 REFUSEs", x.apply(SUM, 40, 100, 1, 100), 0);
        Due.is("kind 39 does not", x.apply(SUM, 39, 100, 1, 100), 127);
    }

    @Says("the first that fits")
    private static void promise3NoKindBeforeOutside() {
        FixedKinds x = Due.with(8, true, 1, 1, 0);
        Due.is("BEYOND 3 of kind 2", x.rule(2, 3, 0), -1);
        Due.is("ROUNDING 4 of kind 2", x.rule(2, 0, 4), -1);
        Due.is("both of kind 0", x.rule(0, -1, -1), -1);
    }

    @Says("-2 BEYOND is not 0 .. 2")
    private static void promise3BeyondOutside() {
        FixedKinds x = Due.with(8, true, 1, 1, 0);
        int[] outside = {-1, 3, 256, 65536, Integer.MIN_VALUE, Integer.MAX_VALUE};
        for (int overflow : outside) {
            Due.is("BEYOND " + overflow, x.rule(1, overflow, 0), -2);
        }
    }

    @Says("or ROUNDING not 0 .. 3")
    private static void promise3RoundingOutside() {
        FixedKinds x = Due.with(8, true, 1, 1, 0);
        int[] outside = {-1, 4, 256, 65536, Integer.MIN_VALUE, Integer.MAX_VALUE};
        for (int rounding : outside) {
            Due.is("ROUNDING " + rounding, x.rule(1, 0, rounding), -2);
        }
    }

    private static FixedKinds used() {
        FixedKinds x = Due.with(16, true, 1, 1, 0);
        x.rule(1, 1, 3);
        x.text(1, -7);
        x.apply(QUOTIENT, 1, 7, 1, 2);
        return x;
    }

    @Says("REFUSALS change nothing")
    private static void promise3RefusalsChangeNothing() {
        int[][] refused = {{1, 3, 0}, {1, -1, 0}, {1, 0, 4}, {1, 0, -1}, {1, 3, 4}, {2, 0, 0}, {0, 0, 0}};
        for (int[] told : refused) {
            FixedKinds x = used();
            x.rule(told[0], told[1], told[2]);
            Due.same("a refused rule()", x, used());
        }
    }

    @Says("A kind's rules")
    private static void promise3EachKindHasItsOwn() {
        FixedKinds x = Due.with(8, true, 1, 1, 0);
        x.kind(8, true, 1, 1, 0);
        x.rule(2, 2, 1);
        x.kind(8, true, 1, 1, 0);
        long[] sums = {127, 0, 127};
        long[] quotients = {-1, -2, -1};
        for (int kind = 1; kind <= 3; kind++) {
            Due.is("100 + 100 in kind " + kind, x.apply(SUM, kind, 100, 1, 100), sums[kind - 1]);
            Due.is("-5/3 in kind " + kind, x.apply(QUOTIENT, kind, -5, 1, 3), quotients[kind - 1]);
        }
    }

    public static void main(String[] args) {
        Due.run(Promise3Test.class);
    }
}
