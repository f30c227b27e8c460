import java.math.BigDecimal;
import java.math.RoundingMode;

/** Promise 8, text(). */
public final class Promise8Test {
    private static final long MIN = Long.MIN_VALUE;
    private static final long MAX = Long.MAX_VALUE;

    private static FixedKinds thousandths() {
        return Due.with(32, true, 1, 1000, 0);
    }

    @Says("- if it is below 0")
    private static void promise8BelowZero() {
        FixedKinds x = thousandths();
        Due.text(x, x.text(1, -5000), "-5");
        Due.text(x, x.text(1, -1001), "-1.001");
        Due.text(x, x.text(1, -1000), "-1");
        Due.text(x, x.text(1, 1), "0.001");
        x.kind(8, false, 1, 1000, -1);
        Due.text(x, x.text(2, 0), "-1");
        Due.text(x, x.text(2, 1), "-0.999");
    }

    @Says("- if it is below 0")
    private static void promise8BelowZeroWithoutAWholePart() {
        FixedKinds x = thousandths();
        Due.text(x, x.text(1, -999), "-0.999");
        Due.text(x, x.text(1, -500), "-0.5");
        Due.text(x, x.text(1, -1), "-0.001");
    }

    @Says("- if it is below 0")
    private static void promise8Zero() {
        FixedKinds x = thousandths();
        Due.text(x, x.text(1, 0), "0");
        x.kind(8, true, 1, 2, 5);
        Due.text(x, x.text(2, -10), "0");
        x.kind(64, true, 1, 1, -1000000);
        Due.text(x, x.text(3, 1000000), "0");
    }

    // A value of no kind lies nearer to 0 than 1/1000, so none below 0 rounds to 0.
    @Says("(and does not round to 0)")
    private static void promise8TheValuesNextToZero() {
        for (int down = 1; down <= 1000; down++) {
            BigDecimal told = BigDecimal.ONE.divide(BigDecimal.valueOf(down), 6, RoundingMode.HALF_UP);
            String want = told.stripTrailingZeros().toPlainString();
            FixedKinds x = Due.with(8, true, 1, down, 0);
            Due.text(x, x.text(1, 1), want);
            Due.text(x, x.text(1, -1), "-" + want);
        }
    }

    @Says("the whole part")
    private static void promise8TheWholePart() {
        FixedKinds x = thousandths();
        Due.text(x, x.text(1, 999), "0.999");
        Due.text(x, x.text(1, 9000), "9");
        Due.text(x, x.text(1, 10000), "10");
        Due.text(x, x.text(1, 9999), "9.999");
        Due.text(x, x.text(1, 1200000), "1200");
        Due.text(x, x.text(1, 1000000000), "1000000");
        Due.text(x, x.text(1, 1000001000), "1000001");
    }

    @Says("and if there is one a point and up to six digits behind it")
    private static void promise8ThePoint() {
        FixedKinds x = thousandths();
        Due.text(x, x.text(1, 7000), "7");
        Due.text(x, x.text(1, 7001), "7.001");
        Due.text(x, x.text(1, 7999), "7.999");
        x.kind(16, true, 1, 64, 0);
        Due.text(x, x.text(2, 1), "0.015625");
        Due.text(x, x.text(2, 64), "1");
        Due.text(x, x.text(2, -65), "-1.015625");
    }

    @Says("rounded to the nearest (a half away from 0)")
    private static void promise8AHalfAwayFromZero() {
        FixedKinds x = Due.with(16, true, 1, 128, 0);
        // 0.0078125 and 0.0234375, an even and an odd digit before the half.
        Due.text(x, x.text(1, 1), "0.007813");
        Due.text(x, x.text(1, -1), "-0.007813");
        Due.text(x, x.text(1, 3), "0.023438");
        Due.text(x, x.text(1, -3), "-0.023438");
        Due.text(x, x.text(1, 127), "0.992188");
        x.kind(16, true, 1, 640, 0);
        Due.text(x, x.text(2, 1), "0.001563");
        Due.text(x, x.text(2, -1), "-0.001563");
        x.kind(63, false, 1, 128, 0);
        Due.text(x, x.text(3, MAX), "72057594037927935.992188");
    }

    @Says("rounded to the nearest")
    private static void promise8BesideAHalf() {
        FixedKinds x = Due.with(16, true, 1, 3, 0);
        Due.text(x, x.text(1, 1), "0.333333");
        Due.text(x, x.text(1, 2), "0.666667");
        Due.text(x, x.text(1, -4), "-1.333333");
        Due.text(x, x.text(1, -5), "-1.666667");
        x.kind(16, true, 1, 201, 0);
        // 0.00497512.. and 0.98009950..
        Due.text(x, x.text(2, 1), "0.004975");
        Due.text(x, x.text(2, 197), "0.9801");
    }

    @Says("without 0s at the end")
    private static void promise8NoZerosAtTheEnd() {
        FixedKinds x = thousandths();
        Due.text(x, x.text(1, 1100), "1.1");
        Due.text(x, x.text(1, 1010), "1.01");
        Due.text(x, x.text(1, 10100), "10.1");
        Due.text(x, x.text(1, 100), "0.1");
        Due.text(x, x.text(1, -20), "-0.02");
        x.kind(16, true, 1, 201, 0);
        Due.text(x, x.text(2, 197), "0.9801");
        Due.text(x, x.text(2, -197), "-0.9801");
    }

    @Says("how many characters")
    private static void promise8TheLongest() {
        FixedKinds x = Due.with(64, true, 1000, 3, -1000000);
        Due.text(x, x.text(1, MIN), "-3074457345618259602666.666667");
        x.kind(64, true, 1000, 999, -1000000);
        Due.text(x, x.text(2, MAX), "9232604641495272079.079079");
        Due.text(x, x.text(2, MIN), "-9232604641497272080.08008");
        x.kind(64, true, 1000, 1, -1000000);
        Due.text(x, x.text(3, MIN), "-9223372036854776808000");
        x.kind(64, true, 1, 1, 0);
        Due.text(x, x.text(4, MIN), "-9223372036854775808");
        Due.text(x, x.text(4, MAX), "9223372036854775807");
        x.kind(64, true, 1, 1000, 1000000);
        Due.text(x, x.text(5, MAX), "9223372037854775.807");
    }

    @Says("A number told as RAW that is none is BROUGHT IN")
    private static void promise8BroughtIn() {
        FixedKinds x = Due.with(8, true, 1, 2, 0);
        Due.text(x, x.text(1, 128), "-64");
        Due.text(x, x.text(1, 255), "-0.5");
        Due.text(x, x.text(1, -129), "63.5");
        x.kind(8, false, 1, 2, 0);
        Due.text(x, x.text(2, -1), "127.5");
        Due.text(x, x.text(2, 256), "0");
    }

    @Says("-1 there is no kind.")
    private static void promise8NoKind() {
        FixedKinds x = thousandths();
        int[] numbers = {0, -1, 2, 40, 41, Integer.MIN_VALUE, Integer.MAX_VALUE};
        for (int kind : numbers) {
            Due.is("text of kind " + kind, x.text(kind, 1), -1);
            Due.noCharacter(x, 0);
        }
    }

    private static FixedKinds used() {
        FixedKinds x = thousandths();
        x.text(1, -1250);
        return x;
    }

    @Says("REFUSALS change nothing")
    private static void promise8ARefusalLeavesTheText() {
        FixedKinds x = used();
        x.text(2, 1);
        x.text(0, 1);
        Due.text(x, 5, "-1.25");
        Due.same("a refused text()", x, used());
    }

    public static void main(String[] args) {
        Due.run(Promise8Test.class);
    }
}
