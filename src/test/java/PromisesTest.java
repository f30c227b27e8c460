import java.util.function.LongSupplier;

/** Each promise of the document by hand: ordinary inputs, the edges it names, wrong inputs. */
public final class PromisesTest {
    private static final long MIN = Long.MIN_VALUE;
    private static final long MAX = Long.MAX_VALUE;
    private static final int SUM = 0;
    private static final int DIFFERENCE = 1;
    private static final int PRODUCT = 2;
    private static final int QUOTIENT = 3;
    private static int wrong = 0;

    private static void due(String what, long got, long want) {
        if (got != want) {
            wrong++;
            System.out.println(what + " answered " + got + ", due is " + want);
        }
    }

    private static void due(String what, boolean got, boolean want) {
        due(what, got ? 1 : 0, want ? 1 : 0);
    }

    private static void dueText(String what, FixedKinds x, int length, String want) {
        due(what + ": length", length, want.length());
        for (int i = 0; i < want.length(); i++) {
            due(what + ": character " + i, charAt(x, i), want.charAt(i));
        }
        dueThrow(what + ": behind", ArrayIndexOutOfBoundsException.class, () -> x.at(want.length()));
        dueThrow(what + ": before", ArrayIndexOutOfBoundsException.class, () -> x.at(-1));
    }

    private static int charAt(FixedKinds x, int i) {
        try {
            return x.at(i);
        } catch (ArrayIndexOutOfBoundsException e) {
            return -1;
        }
    }

    private static void dueThrow(String what, Class<? extends RuntimeException> want, LongSupplier call) {
        Class<?> got = null;
        try {
            call.getAsLong();
        } catch (RuntimeException e) {
            got = e.getClass();
            notByMachine(what, e);
        }
        if (got != want) {
            wrong++;
            System.out.println(what + " threw " + got + ", due is " + want);
        }
    }

    // The machine's own exceptions bear these texts.
    private static void notByMachine(String what, RuntimeException e) {
        String text = String.valueOf(e.getMessage());
        if (text.startsWith("Index ") || text.startsWith("/ by")) {
            wrong++;
            System.out.println(what + ": the machine threw " + e);
        }
    }

    private static FixedKinds with(int width, boolean signed, long up, long down, long offset) {
        FixedKinds x = new FixedKinds();
        due("the first kind", x.kind(width, signed, up, down, offset), 1);
        return x;
    }

    private static void newObject() {
        FixedKinds x = new FixedKinds();
        due("1: nothing lost", x.lost(), false);
        due("1: no kind 1", x.bound(1, 1), 0);
        due("1: no kind to rule", x.rule(1, 0, 0), -1);
        dueThrow("1: no text", ArrayIndexOutOfBoundsException.class, () -> x.at(0));
        dueThrow("1: no text before", ArrayIndexOutOfBoundsException.class, () -> x.at(-1));
        FixedKinds other = with(8, true, 1, 1, 0);
        other.text(1, 5);
        other.convert(1, 5, 1);
        due("1: objects are apart", new FixedKinds().bound(1, 1), 0);
    }

    private static void kindRanges() {
        FixedKinds x = new FixedKinds();
        int[] widths = {7, 0, -1, 65, 72, Integer.MIN_VALUE, Integer.MAX_VALUE};
        for (int width : widths) {
            due("2: width " + width, x.kind(width, true, 1, 1, 0), -2);
            due("2: width without sign " + width, x.kind(width, false, 1, 1, 0), -2);
        }
        due("2: 64 without sign", x.kind(64, false, 1, 1, 0), -2);
        long[] parts = {-1, 1001, MIN, MAX, 1L << 32, (1L << 32) + 1};
        for (long part : parts) {
            due("2: up " + part, x.kind(8, true, part, 1, 0), -2);
            due("2: down " + part, x.kind(8, true, 1, part, 0), -2);
        }
        due("2: down 0", x.kind(8, true, 1, 0, 0), -2);
        long[] offsets = {1000001, -1000001, MIN, MAX, 1L << 32};
        for (long offset : offsets) {
            due("2: offset " + offset, x.kind(8, true, 1, 1, offset), -2);
        }
        due("2: up 0", x.kind(8, true, 0, 1, 0), 0);
        due("2: up 0, width refused", x.kind(7, true, 0, 1, 0), -2);
        due("2: up 0, 64 without sign refused", x.kind(64, false, 0, 1, 0), -2);
        due("2: up 0, down refused", x.kind(8, true, 0, 0, 0), -2);
        due("2: up 0, offset refused", x.kind(8, true, 0, 1, 1000001), -2);
        due("2: nothing was made", x.bound(1, 1), 0);
        due("2: least told", x.kind(8, false, 1, 1, -1000000), 1);
        due("2: greatest told", x.kind(64, true, 1000, 1000, 1000000), 2);
        due("2: 63 without sign", x.kind(63, false, 1, 1000, 0), 3);
    }

    private static void kindRoom() {
        FixedKinds x = new FixedKinds();
        for (int i = 1; i <= 40; i++) {
            due("2: kind " + i, x.kind(8 + i, true, 1, 1, 0), i);
        }
        due("2: no room", x.kind(8, true, 1, 1, 0), -4);
        due("2: no room comes before up 0", x.kind(8, true, 0, 1, 0), -4);
        due("2: a range comes before no room", x.kind(7, true, 1, 1, 0), -2);
        due("2: kind 40 stands", x.bound(40, 1), (1L << 47) - 1);
        due("2: there is no kind 41", x.bound(41, 1), 0);
    }

    private static void rules() {
        FixedKinds x = with(8, true, 1, 1, 0);
        int[] unknown = {0, -1, 2, 41, Integer.MIN_VALUE, Integer.MAX_VALUE};
        for (int kind : unknown) {
            due("3: no kind " + kind, x.rule(kind, 0, 0), -1);
            due("3: no kind comes first " + kind, x.rule(kind, 9, 9), -1);
        }
        due("3: it SATURATEs at first", x.apply(SUM, 1, 100, 1, 100), 127);
        due("3: it rounds towards 0 at first", x.apply(QUOTIENT, 1, -5, 1, 3), -1);
        due("3: WRAP, downwards", x.rule(1, 1, 1), 1);
        int[] beyond = {-1, 3, Integer.MIN_VALUE, Integer.MAX_VALUE};
        int[] roundings = {-1, 4, Integer.MIN_VALUE, Integer.MAX_VALUE};
        for (int i = 0; i < beyond.length; i++) {
            due("3: beyond " + beyond[i], x.rule(1, beyond[i], 0), -2);
            due("3: rounding " + roundings[i], x.rule(1, 0, roundings[i]), -2);
        }
        due("3: WRAP stands", x.apply(SUM, 1, 100, 1, 100), -56);
        due("3: downwards stands", x.apply(QUOTIENT, 1, -5, 1, 3), -2);
        due("3: REFUSE, half to even", x.rule(1, 2, 3), 1);
        due("3: REFUSE", x.apply(SUM, 1, 100, 1, 100), 0);
        due("3: half to even", x.apply(QUOTIENT, 1, -5, 1, 2), -2);
        x.kind(8, true, 1, 1, 0);
        due("3: another kind has its own", x.apply(SUM, 2, 100, 1, 100), 127);
    }

    private static void roundings() {
        // Halves, and what lies beside them, of both signs; a row a way of rounding.
        long[] above = {1, 2, 3, 4, 5, 6, 7, 10, 14, -1, -2, -3, -4, -5, -6, -7, -10, -14};
        long[][] wants = {
            {0, 0, 0, 1, 1, 1, 1, 2, 3, 0, 0, 0, -1, -1, -1, -1, -2, -3},
            {0, 0, 0, 1, 1, 1, 1, 2, 3, -1, -1, -1, -1, -2, -2, -2, -3, -4},
            {0, 1, 1, 1, 1, 2, 2, 3, 4, 0, -1, -1, -1, -1, -2, -2, -3, -4},
            {0, 0, 1, 1, 1, 2, 2, 2, 4, 0, 0, -1, -1, -1, -2, -2, -2, -4},
        };
        FixedKinds x = with(8, true, 1, 1, 0);
        x.kind(8, true, 1, 4, 0);
        for (int rounding = 0; rounding < wants.length; rounding++) {
            x.rule(1, 0, rounding);
            for (int i = 0; i < above.length; i++) {
                due("4: rounding " + rounding + " of " + above[i] + "/4", x.convert(2, above[i], 1), wants[rounding][i]);
                due("4: lost by " + above[i] + "/4", x.lost(), above[i] % 4 != 0);
            }
        }
    }

    private static void sums() {
        FixedKinds x = with(16, true, 1, 10, 5);
        x.kind(13, false, 3, 7, -100);
        due("4: 15 + 15", x.apply(SUM, 1, 100, 1, 100), 250);
        due("4: not lost", x.lost(), false);
        due("4: 15 - 20", x.apply(DIFFERENCE, 1, 100, 1, 150), -100);
        due("4: 15 * 6", x.apply(PRODUCT, 1, 100, 1, 10), 850);
        due("4: 15 / 6", x.apply(QUOTIENT, 1, 100, 1, 10), -25);
        due("4: whole", x.lost(), false);
        // 5.1 + 3/7 - 100 = -94.47..., less 5, times 10 = -994.71...
        due("4: other kind", x.apply(SUM, 1, 1, 2, 1), -994);
        due("4: other kind lost", x.lost(), true);
        // -100 + 3/7 + 5.1 = -94.47..., plus 100, times 7/3 = 12.9
        due("4: into the first kind", x.apply(SUM, 2, 1, 1, 1), 12);
        due("4: a and b are brought in", x.apply(SUM, 2, 8193, 1, 65537), 12);
        due("4: by a value below 0", x.apply(QUOTIENT, 1, 100, 1, -80), -100);
        due("4: both below 0", x.apply(QUOTIENT, 1, -110, 1, -80), -30);
    }

    private static void wrongOps() {
        FixedKinds x = with(8, true, 1, 1, 0);
        x.apply(SUM, 1, 100, 1, 100);
        int[] ops = {-1, 4, Integer.MIN_VALUE, Integer.MAX_VALUE};
        for (int op : ops) {
            due("4: no op " + op, x.apply(op, 1, 1, 1, 1), 0);
        }
        int[] unknown = {0, -1, 2, Integer.MIN_VALUE, Integer.MAX_VALUE};
        for (int kind : unknown) {
            due("4: no kind " + kind, x.apply(SUM, kind, 1, 1, 1), 0);
            due("4: no other kind " + kind, x.apply(SUM, 1, 1, kind, 1), 0);
            due("4: no quotient in kind " + kind, x.apply(QUOTIENT, kind, 1, 1, 0), 0);
        }
        due("6: what was not done leaves it", x.lost(), true);
    }

    private static void beyond() {
        FixedKinds x = with(8, false, 1, 1, 0);
        x.kind(16, true, 1, 4, 0);
        due("4: above, SATURATE", x.convert(2, 4 * 300, 1), 255);
        due("4: above, lost", x.lost(), true);
        due("4: below, SATURATE", x.convert(2, -4, 1), 0);
        due("4: greatest", x.convert(2, 4 * 255, 1), 255);
        due("4: greatest, not lost", x.lost(), false);
        due("4: just above, rounded back", x.convert(2, 4 * 255 + 1, 1), 255);
        due("4: just above, lost", x.lost(), true);
        due("4: just below 0, rounded back", x.convert(2, -3, 1), 0);
        x.rule(1, 1, 2);
        due("4: rounded beyond, WRAP", x.convert(2, 4 * 255 + 2, 1), 0);
        due("4: below, WRAP", x.convert(2, -4, 1), 255);
        due("4: below, lost", x.lost(), true);
        due("4: far, WRAP", x.convert(2, 4 * 1000, 1), 1000 % 256);
        x.rule(1, 2, 1);
        due("4: above, REFUSE", x.convert(2, 4 * 256, 1), 0);
        due("4: refused is lost", x.lost(), true);
        due("4: downwards beyond, REFUSE", x.convert(2, -1, 1), 0);
        x.rule(1, 1, 1);
        due("4: downwards beyond, WRAP", x.convert(2, -1, 1), 255);
    }

    private static void wide() {
        FixedKinds x = with(64, true, 1000, 1, 1000000);
        x.kind(64, true, 1, 1000, 0);
        x.kind(64, true, 1, 1, 0);
        x.rule(2, 1, 0);
        x.rule(3, 1, 0);
        // 1/1000 of MIN * 1000 + 10^6, told in thousandths: MIN * 1000 has none of the lowest 64 bits.
        due("4: widest product wraps", x.apply(PRODUCT, 2, 1, 1, MIN), 1000000L);
        due("4: sum wraps", x.apply(SUM, 3, MAX, 3, 1), MIN);
        due("4: difference wraps", x.apply(DIFFERENCE, 3, MIN, 3, 1), MAX);
        due("4: product wraps", x.apply(PRODUCT, 3, MIN, 3, -1), MIN);
        due("4: wrapped is lost", x.lost(), true);
        due("4: quotient wraps", x.apply(QUOTIENT, 3, MIN, 3, -1), MIN);
        due("4: wide quotient", x.apply(QUOTIENT, 3, MAX, 3, MIN), 0);
        x.rule(3, 0, 1);
        due("4: wide quotient downwards", x.apply(QUOTIENT, 3, MAX, 3, MIN), -1);
        x.rule(3, 0, 3);
        due("4: nearest of almost one half", x.apply(QUOTIENT, 3, MAX / 2, 3, MAX), 0);
        due("4: nearest of just over one half", x.apply(QUOTIENT, 3, MAX / 2 + 1, 3, MAX), 1);
    }

    private static void byZero() {
        FixedKinds x = with(8, true, 1, 2, 3);
        x.kind(8, true, 1, 1, 5);
        due("4: above 0 by 0", x.apply(QUOTIENT, 1, 0, 2, -5), 127);
        due("4: above 0 by 0 is lost", x.lost(), true);
        due("4: below 0 by 0", x.apply(QUOTIENT, 1, -10, 2, -5), -128);
        due("4: RAW 0 is not value 0", x.apply(QUOTIENT, 1, -4, 2, 0), -5);
        x.convert(2, 1, 2);
        due("6: a new one is not lost", x.lost(), false);
        due("4: 0 by 0 puts 0", x.apply(QUOTIENT, 1, -6, 2, -5), -6);
        due("4: 0 by 0 is lost", x.lost(), true);
        x.convert(2, 1, 2);
        for (int overflow = 1; overflow <= 2; overflow++) {
            x.rule(1, overflow, 0);
            dueThrow("4: above 0 by 0", ArithmeticException.class, () -> x.apply(QUOTIENT, 1, 0, 2, -5));
            dueThrow("4: below 0 by 0", ArithmeticException.class, () -> x.apply(QUOTIENT, 1, -10, 2, -5));
            dueThrow("4: 0 by 0", ArithmeticException.class, () -> x.apply(QUOTIENT, 1, -6, 2, -5));
            due("6: what throws leaves it", x.lost(), false);
        }
        x.rule(1, 0, 0);
        x.rule(2, 2, 0);
        due("4: the first kind's rule counts", x.apply(QUOTIENT, 1, 0, 2, -5), 127);
        x.rule(1, 2, 0);
        dueThrow("4: throws with what was lost", ArithmeticException.class, () -> x.apply(QUOTIENT, 1, 0, 2, -5));
        due("6: and leaves that too", x.lost(), true);
    }

    private static void conversions() {
        FixedKinds x = with(8, true, 1, 8, 0);
        x.kind(16, false, 3, 7, -100);
        x.kind(8, true, 2, 1, 1);
        due("5: 12.5", x.convert(1, 100, 2), 262);
        due("5: lost", x.lost(), true);
        due("5: to itself", x.convert(1, -77, 1), -77);
        due("5: to itself, not lost", x.lost(), false);
        due("5: brought in", x.convert(1, 256 + 8, 3), 0);
        due("5: brought in is no loss", x.lost(), false);
        due("5: brought in with sign", x.convert(1, 255, 1), -1);
        due("5: brought in without sign", x.convert(2, -1, 2), 65535);
        x.rule(1, 2, 0);
        x.rule(3, 1, 1);
        due("5: the target's rules count", x.convert(1, -1, 3), -1);
        int[] unknown = {0, -1, 4, Integer.MIN_VALUE, Integer.MAX_VALUE};
        for (int kind : unknown) {
            due("5: from no kind " + kind, x.convert(kind, 8, 1), 0);
            due("5: to no kind " + kind, x.convert(1, 8, kind), 0);
        }
        due("6: what was not done leaves it", x.lost(), true);
    }

    private static void lostStays() {
        FixedKinds x = with(8, true, 1, 1, 0);
        x.apply(SUM, 1, 127, 1, 1);
        x.kind(8, true, 1, 2, 0);
        x.rule(1, 0, 1);
        x.physical(1, 1, 1);
        x.text(2, 1);
        x.at(0);
        x.bound(1, 1);
        x.compare(1, 1, 2, 1);
        x.octet(1, 1, 0);
        x.half(1, 1);
        due("6: no other call changes true", x.lost(), true);
        x.convert(1, 1, 2);
        x.text(2, 1);
        x.compare(1, 1, 2, 1);
        x.physical(2, 1, 0);
        due("6: no other call changes false", x.lost(), false);
        due("6: nor lost() itself", x.lost(), false);
    }

    private static void fractions() {
        FixedKinds x = with(64, true, 1000, 999, -1000000);
        x.kind(16, true, 4, 6, 0);
        x.kind(16, true, 6, 4, 3);
        due("7: below", x.physical(1, MIN, 0), 999);
        due("7: above, lowest", x.physical(1, MIN, 1), 3295967296L);
        due("7: above, next", x.physical(1, MIN, 2), 4294967295L);
        due("7: above, behind, with sign", x.physical(1, MIN, 3), -501);
        due("7: a slope is brought to lowest terms", x.physical(2, 1, 0), 3);
        due("7: above it", x.physical(2, 1, 1), 2);
        due("7: 6 * 4/6 is whole", x.physical(2, 6, 0), 1);
        due("7: 4", x.physical(2, 6, 1), 4);
        due("7: value 0 is 0/1", x.physical(3, -2, 0), 1);
        due("7: value 0", x.physical(3, -2, 1), 0);
        due("7: value 0, behind", x.physical(3, -2, 3), 0);
        due("7: -4/3 has a below above 0", x.physical(2, -2, 0), 3);
        due("7: -4/3, lowest", x.physical(2, -2, 1), 4294967292L);
        due("7: -4/3, next", x.physical(2, -2, 2), 4294967295L);
        due("7: -4/3, behind", x.physical(2, -2, 3), -1);
        due("7: brought in", x.physical(2, 65536 + 6, 1), 4);
        int[] sides = {-1, 4, Integer.MIN_VALUE, Integer.MAX_VALUE};
        for (int side : sides) {
            due("7: no side " + side, x.physical(1, MIN, side), 0);
        }
        due("7: no kind", x.physical(4, 5, 0), 0);
        due("7: no kind 0", x.physical(0, 5, 0), 0);
    }

    private static void texts() {
        FixedKinds x = with(64, true, 1000, 999, -1000000);
        x.kind(32, true, 1, 1000, 0);
        x.kind(16, true, 1, 64, 0);
        x.kind(16, true, 1, 128, 0);
        x.kind(16, true, 2, 3, 0);
        x.kind(64, true, 1000, 1, -1000000);
        dueText("8: whole", x, x.text(2, 5000), "5");
        dueText("8: zero", x, x.text(2, 0), "0");
        dueText("8: 0s in the whole part stay", x, x.text(2, 1200000), "1200");
        dueText("8: 0s behind the point", x, x.text(2, -1001), "-1.001");
        dueText("8: 0s at the end go", x, x.text(2, 1100), "1.1");
        dueText("8: six digits", x, x.text(3, 1), "0.015625");
        dueText("8: half away from 0, above", x, x.text(4, 1), "0.007813");
        dueText("8: half away from 0, below", x, x.text(4, -1), "-0.007813");
        dueText("8: rounded up", x, x.text(5, 1), "0.666667");
        dueText("8: rounded down", x, x.text(5, -2), "-1.333333");
        dueText("8: greatest", x, x.text(1, MAX), "9232604641495272079.079079");
        dueText("8: least", x, x.text(6, MIN), "-9223372036854776808000");
        dueText("8: brought in", x, x.text(3, 65536 + 64), "1");
        due("8: no kind", x.text(7, 1), -1);
        due("8: no kind 0", x.text(0, 1), -1);
        due("8: no kind -1", x.text(-1, 1), -1);
        dueText("8: a refusal leaves the text", x, 1, "1");
    }

    private static void characters() {
        FixedKinds x = with(8, true, 1, 8, 0);
        due("9: a longer text", x.text(1, -1), 6);
        due("9: a shorter one", x.text(1, 8), 1);
        due("9: its character", x.at(0), '1');
        int[] outside = {1, 5, 39, 40, -1, Integer.MIN_VALUE, Integer.MAX_VALUE};
        for (int i : outside) {
            dueThrow("9: outside " + i, ArrayIndexOutOfBoundsException.class, () -> x.at(i));
        }
        x.kind(8, true, 1, 1, 0);
        x.convert(1, 1, 2);
        due("9: no other call changes the text", x.at(0), '1');
    }

    private static void bounds() {
        FixedKinds x = with(8, true, 7, 3, 11);
        x.kind(8, false, 7, 3, 11);
        x.kind(63, false, 1, 1, 0);
        x.kind(64, true, 1, 1, 0);
        x.kind(63, true, 1, 1, 0);
        due("10: least", x.bound(1, 0), -128);
        due("10: greatest", x.bound(1, 1), 127);
        due("10: other sides", x.bound(1, -1), 127);
        due("10: other sides", x.bound(1, Integer.MIN_VALUE), 127);
        due("10: least without sign", x.bound(2, 0), 0);
        due("10: greatest without sign", x.bound(2, 2), 255);
        due("10: 63 without sign", x.bound(3, 1), MAX);
        due("10: 64", x.bound(4, 0), MIN);
        due("10: 64", x.bound(4, 1), MAX);
        due("10: 63", x.bound(5, 0), MIN / 2);
        due("10: 63", x.bound(5, 1), MAX / 2);
        due("10: no kind", x.bound(6, 0), 0);
        due("10: no kind 0", x.bound(0, 1), 0);
    }

    private static void comparisons() {
        FixedKinds x = with(64, true, 999, 1000, 0);
        x.kind(64, true, 1000, 999, 0);
        x.kind(8, true, 1, 1, 5);
        x.kind(8, false, 1, 2, -5);
        due("11: less", x.compare(1, MAX, 2, MAX), -1);
        due("11: more below 0", x.compare(1, MIN, 2, MIN), 1);
        due("11: by one", x.compare(1, MAX, 1, MAX - 1), 1);
        due("11: the same", x.compare(3, -5, 4, 10), 0);
        due("11: half more", x.compare(3, -5, 4, 9), 1);
        due("11: half less", x.compare(3, -5, 4, 11), -1);
        due("11: brought in", x.compare(3, 251, 4, 256 + 10), 0);
        due("11: no kind", x.compare(5, 1, 1, 1), -2);
        due("11: no other kind", x.compare(1, 1, 5, 1), -2);
        due("11: no kind 0", x.compare(0, 1, 0, 1), -2);
    }

    private static void octets() {
        FixedKinds x = with(13, true, 5, 2, 3);
        x.kind(64, true, 1, 1, 0);
        x.kind(16, false, 1, 1, 0);
        due("12: lowest", x.octet(1, -1, 0), -1);
        due("12: last, filled up", x.octet(1, -1, 1), 31);
        due("12: behind", x.octet(1, -1, 2), 0);
        due("12: before", x.octet(1, -1, -1), 0);
        for (int i = 0; i < 8; i++) {
            due("12: octet " + i, x.octet(2, 0x0807060504030281L, i), i == 0 ? -127 : i + 1);
        }
        due("12: behind 64 bits", x.octet(2, -1, 8), 0);
        due("12: as far as WIDTH goes", x.octet(3, -1, 2), 0);
        due("12: 16 bits", x.octet(3, 0x1234, 1), 0x12);
        int[] far = {1 << 28, 1 << 29, Integer.MIN_VALUE, Integer.MAX_VALUE};
        for (int i : far) {
            due("12: far " + i, x.octet(2, -1, i), 0);
        }
        due("12: no kind", x.octet(4, -1, 0), 0);
        due("12: no kind 0", x.octet(0, -1, 0), 0);
    }

    private static void halves() {
        int[] widths = {8, 9, 13, 31, 32, 33, 34, 48, 63, 64};
        long[] wants = {15, 15, 63, 32767, -1, -1, -1, -1, -1, -1};
        FixedKinds x = new FixedKinds();
        for (int i = 0; i < widths.length; i++) {
            x.kind(widths[i], true, 1, 1, 0);
            due("13: all bits of " + widths[i], x.half(i + 1, -1), wants[i]);
            int lower = widths[i] - widths[i] / 2;
            due("13: lowest bit of " + widths[i], x.half(i + 1, 1L << lower), 1);
            due("13: below it in " + widths[i], x.half(i + 1, (1L << lower) - 1), 0);
        }
        due("13: 64 bits", x.half(10, 0x1234_8765_0000_0000L), (short) 0x8765);
        due("13: brought in", x.half(1, 0xF30), 3);
        due("13: no kind", x.half(11, -1), 0);
        due("13: no kind 0", x.half(0, -1), 0);
    }

    public static void main(String[] args) {
        newObject();
        kindRanges();
        kindRoom();
        rules();
        roundings();
        sums();
        wrongOps();
        beyond();
        wide();
        byZero();
        conversions();
        lostStays();
        fractions();
        texts();
        characters();
        bounds();
        comparisons();
        octets();
        halves();
        System.out.println("PromisesTest: " + (wrong == 0 ? "all answers are as due" : wrong + " answers are not as due"));
        if (wrong != 0) {
            System.exit(1);
        }
    }
}
