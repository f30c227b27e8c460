import java.math.BigDecimal;
import java.math.BigInteger;
import java.math.RoundingMode;
import java.util.ArrayList;
import java.util.List;
import java.util.Random;

/** Long runs of calls beside a second reading of the document, written with BigInteger. */
public final class OracleTest {
    private static final int RUNS = 4000;
    // What an object is used for; a text and its characters are the step of the most calls.
    private static final int MOST_CALLS = 512;
    private static final int MOST_CALLS_OF_A_STEP = 45;
    private static int wrong = 0;
    private static int calls = 0;

    private record Kind(int width, boolean signed, long up, long down, long offset, int[] rules) {
        BigInteger least() {
            return signed ? BigInteger.ONE.shiftLeft(width - 1).negate() : BigInteger.ZERO;
        }

        BigInteger greatest() {
            return least().add(BigInteger.ONE.shiftLeft(width)).subtract(BigInteger.ONE);
        }

        BigInteger bits(BigInteger v) {
            return v.mod(BigInteger.ONE.shiftLeft(width));
        }

        BigInteger broughtIn(BigInteger v) {
            BigInteger bits = bits(v);
            return bits.compareTo(greatest()) > 0 ? bits.subtract(BigInteger.ONE.shiftLeft(width)) : bits;
        }

        Ratio value(long v) {
            BigInteger raw = broughtIn(BigInteger.valueOf(v));
            return new Ratio(raw, BigInteger.ONE).times(slope()).plus(Ratio.of(offset));
        }

        Ratio slope() {
            return new Ratio(BigInteger.valueOf(up), BigInteger.valueOf(down));
        }
    }

    private record Ratio(BigInteger above, BigInteger below) {
        static Ratio of(long v) {
            return new Ratio(BigInteger.valueOf(v), BigInteger.ONE);
        }

        Ratio lowest() {
            BigInteger common = above.gcd(below);
            if (below.signum() < 0) {
                common = common.negate();
            }
            return new Ratio(above.divide(common), below.divide(common));
        }

        Ratio plus(Ratio o) {
            return new Ratio(above.multiply(o.below).add(o.above.multiply(below)), below.multiply(o.below)).lowest();
        }

        Ratio minus(Ratio o) {
            return plus(new Ratio(o.above.negate(), o.below));
        }

        Ratio times(Ratio o) {
            return new Ratio(above.multiply(o.above), below.multiply(o.below)).lowest();
        }

        Ratio over(Ratio o) {
            return new Ratio(above.multiply(o.below), below.multiply(o.above)).lowest();
        }

        BigInteger rounded(int rounding) {
            RoundingMode mode = switch (rounding) {
                case 0 -> RoundingMode.DOWN;
                case 1 -> RoundingMode.FLOOR;
                case 2 -> RoundingMode.HALF_UP;
                default -> RoundingMode.HALF_EVEN;
            };
            return new BigDecimal(above).divide(new BigDecimal(below), 0, mode).toBigIntegerExact();
        }
    }

    /** The second reading: answers as text, so that exceptions are answers too. */
    private static final class Model {
        final List<Kind> kinds = new ArrayList<>();
        boolean lost = false;
        String text = "";

        Kind find(int n) {
            return n >= 1 && n <= kinds.size() ? kinds.get(n - 1) : null;
        }

        int kind(int width, boolean signed, long up, long down, long offset) {
            boolean good = width >= 8 && width <= 64 && (signed || width != 64)
                    && up >= 0 && up <= 1000 && down >= 1 && down <= 1000
                    && offset >= -1000000 && offset <= 1000000;
            if (!good) {
                return -2;
            }
            if (kinds.size() == 40) {
                return -4;
            }
            if (up == 0) {
                return 0;
            }
            kinds.add(new Kind(width, signed, up, down, offset, new int[2]));
            return kinds.size();
        }

        int rule(int kind, int overflow, int rounding) {
            Kind k = find(kind);
            if (k == null) {
                return -1;
            }
            if (overflow < 0 || overflow > 2 || rounding < 0 || rounding > 3) {
                return -2;
            }
            k.rules[0] = overflow;
            k.rules[1] = rounding;
            return 1;
        }

        long put(Ratio value, Kind k) {
            Ratio exact = value.minus(Ratio.of(k.offset)).over(k.slope());
            BigInteger whole = exact.rounded(k.rules[1]);
            boolean under = whole.compareTo(k.least()) < 0;
            boolean over = whole.compareTo(k.greatest()) > 0;
            lost = !exact.lowest().below().equals(BigInteger.ONE) || under || over;
            if (!under && !over) {
                return whole.longValueExact();
            }
            if (k.rules[0] == 0) {
                return (under ? k.least() : k.greatest()).longValueExact();
            }
            return k.rules[0] == 1 ? k.broughtIn(whole).longValueExact() : 0;
        }

        String apply(int op, int kind, long a, int other, long b) {
            Kind k = find(kind);
            Kind o = find(other);
            if (k == null || o == null || op < 0 || op > 3) {
                return "0";
            }
            Ratio x = k.value(a);
            Ratio y = o.value(b);
            if (op == 3 && y.above().signum() == 0) {
                if (k.rules[0] != 0) {
                    return "throws.ArithmeticException";
                }
                int sign = x.above().signum();
                long raw = sign == 0 ? put(Ratio.of(0), k)
                        : (sign > 0 ? k.greatest() : k.least()).longValueExact();
                lost = true;
                return String.valueOf(raw);
            }
            Ratio z = op == 0 ? x.plus(y) : op == 1 ? x.minus(y) : op == 2 ? x.times(y) : x.over(y);
            return String.valueOf(put(z, k));
        }

        long convert(int from, long v, int to) {
            Kind k = find(from);
            Kind o = find(to);
            return k == null || o == null ? 0 : put(k.value(v), o);
        }

        long physical(int kind, long v, int side) {
            Kind k = find(kind);
            if (k == null || side < 0 || side > 3) {
                return 0;
            }
            Ratio x = k.value(v);
            if (side == 0) {
                return x.below().longValueExact();
            }
            BigInteger shifted = x.above().shiftRight(32 * (side - 1));
            return side == 3 ? shifted.longValueExact() : shifted.longValue() & 0xFFFFFFFFL;
        }

        int text(int kind, long v) {
            Kind k = find(kind);
            if (k == null) {
                return -1;
            }
            Ratio x = k.value(v);
            BigDecimal told = new BigDecimal(x.above()).divide(new BigDecimal(x.below()), 6, RoundingMode.HALF_UP);
            text = told.signum() == 0 ? "0" : told.stripTrailingZeros().toPlainString();
            return text.length();
        }

        String at(int i) {
            return i >= 0 && i < text.length() ? String.valueOf((int) text.charAt(i))
                    : "throws.ArrayIndexOutOfBoundsException";
        }

        long bound(int kind, int side) {
            Kind k = find(kind);
            return k == null ? 0 : (side == 0 ? k.least() : k.greatest()).longValueExact();
        }

        int compare(int kind, long a, int other, long b) {
            Kind k = find(kind);
            Kind o = find(other);
            return k == null || o == null ? -2 : k.value(a).minus(o.value(b)).above().signum();
        }

        long octet(int kind, long v, int i) {
            Kind k = find(kind);
            return k == null || i < 0 || i > 8 ? 0
                    : k.bits(BigInteger.valueOf(v)).shiftRight(8 * i).byteValue();
        }

        long half(int kind, long v) {
            Kind k = find(kind);
            return k == null ? 0
                    : k.bits(BigInteger.valueOf(v)).shiftRight((k.width + 1) / 2).shortValue();
        }
    }

    private static final class Source {
        final Random random;

        Source(long seed) {
            random = new Random(seed);
        }

        int among(int... choices) {
            return choices[random.nextInt(choices.length)];
        }

        int upTo(int most) {
            return random.nextInt(most + 1);
        }

        boolean oneIn(int n) {
            return random.nextInt(n) == 0;
        }

        int width() {
            return oneIn(20) ? among(7, 0, -1, 65, 64, 128, Integer.MAX_VALUE, Integer.MIN_VALUE)
                    : oneIn(3) ? among(8, 9, 15, 16, 17, 31, 32, 33, 62, 63, 64) : 8 + upTo(56);
        }

        long slopePart() {
            return oneIn(30) ? new long[] {0, -1, 1001, Long.MIN_VALUE, Long.MAX_VALUE, 1L << 32}[upTo(5)]
                    : oneIn(2) ? among(1, 1, 2, 4, 5, 8, 10, 100, 125, 512, 999, 1000) : 1 + upTo(999);
        }

        long offset() {
            return oneIn(30) ? new long[] {1000001, -1000001, Long.MIN_VALUE, Long.MAX_VALUE, 1L << 32}[upTo(4)]
                    : oneIn(2) ? 0
                    : oneIn(2) ? among(1, -1, 2, -3, 100, -100, 1000000, -1000000) : upTo(2000000) - 1000000;
        }

        int number(int known) {
            return oneIn(40) ? among(0, -1, known + 1, 40, 41, Integer.MIN_VALUE, Integer.MAX_VALUE) : 1 + upTo(Math.max(known, 1) - 1);
        }

        long raw(Kind k) {
            if (k == null || oneIn(6)) {
                return random.nextLong() >> upTo(63);
            }
            switch (upTo(5)) {
                case 0:
                    return k.least().longValueExact() + upTo(4) - 2;
                case 1:
                    return k.greatest().longValueExact() + upTo(4) - 2;
                case 2:
                    return upTo(40) - 20;
                case 3:
                    // Where the value is 0 or near to it.
                    return -k.offset * k.down / k.up + (oneIn(2) ? 0 : upTo(2) - 1);
                default:
                    return random.nextLong() >> (63 - upTo(Math.min(k.width, 63)));
            }
        }
    }

    private static void due(String call, Object got, Object want) {
        calls++;
        if (!String.valueOf(got).equals(String.valueOf(want))) {
            wrong++;
            if (wrong <= 50) {
                System.out.println(call + " answered " + got + ", due is " + want);
            }
        }
    }

    // The machine's own exceptions bear these texts, and are never due.
    private static String thrown(RuntimeException e) {
        String text = String.valueOf(e.getMessage());
        boolean byMachine = text.startsWith("Index ") || text.startsWith("/ by");
        return "throws." + e.getClass().getSimpleName() + (byMachine ? " by the machine" : "");
    }

    private static String applied(FixedKinds x, int op, int kind, long a, int other, long b) {
        try {
            return String.valueOf(x.apply(op, kind, a, other, b));
        } catch (RuntimeException e) {
            return thrown(e);
        }
    }

    private static String charAt(FixedKinds x, int i) {
        try {
            return String.valueOf(x.at(i));
        } catch (RuntimeException e) {
            return thrown(e);
        }
    }

    private static void makeKind(FixedKinds x, Model m, Source s) {
        int width = s.width();
        boolean signed = s.oneIn(2);
        long up = s.slopePart();
        long down = s.slopePart();
        long offset = s.offset();
        due("kind " + width + " " + signed + " " + up + " " + down + " " + offset,
                x.kind(width, signed, up, down, offset), m.kind(width, signed, up, down, offset));
    }

    private static void oneCall(FixedKinds x, Model m, Source s) {
        int known = m.kinds.size();
        int k = s.number(known);
        int o = s.number(known);
        Kind kk = m.find(k);
        Kind oo = m.find(o);
        long a = s.raw(kk);
        long b = s.raw(oo);
        String told = " " + k + " " + kk + " " + a + ", " + o + " " + oo + " " + b;
        if (kk != null) {
            told = told + " rules " + kk.rules[0] + " " + kk.rules[1];
        }
        switch (s.upTo(15)) {
            case 0 -> makeKind(x, m, s);
            case 1, 2 -> {
                int overflow = s.oneIn(20) ? s.among(-1, 3, Integer.MIN_VALUE, Integer.MAX_VALUE) : s.upTo(2);
                int rounding = s.oneIn(20) ? s.among(-1, 4, Integer.MIN_VALUE, Integer.MAX_VALUE) : s.upTo(3);
                due("rule" + told, x.rule(k, overflow, rounding), m.rule(k, overflow, rounding));
            }
            case 3, 4, 5, 6 -> {
                int op = s.oneIn(30) ? s.among(-1, 4, Integer.MIN_VALUE, Integer.MAX_VALUE) : s.upTo(3);
                due("apply " + op + told, applied(x, op, k, a, o, b), m.apply(op, k, a, o, b));
            }
            case 7, 8 -> due("convert" + told, x.convert(o, b, k), m.convert(o, b, k));
            case 9 -> {
                int side = s.among(0, 1, 2, 3, 0, 1, 2, 3, -1, 4, Integer.MIN_VALUE, Integer.MAX_VALUE);
                due("physical " + side + told, x.physical(k, a, side), m.physical(k, a, side));
            }
            case 10, 11 -> {
                due("text" + told, x.text(k, a), m.text(k, a));
                for (int i = -1; i <= m.text.length(); i++) {
                    due("at " + i + told, charAt(x, i), m.at(i));
                }
                due("at far", charAt(x, Integer.MAX_VALUE), m.at(Integer.MAX_VALUE));
                due("at low", charAt(x, Integer.MIN_VALUE), m.at(Integer.MIN_VALUE));
            }
            case 12 -> {
                int side = s.among(0, 0, 1, 2, -1, Integer.MIN_VALUE);
                due("bound " + side + told, x.bound(k, side), m.bound(k, side));
            }
            case 13 -> due("compare" + told, x.compare(k, a, o, b), m.compare(k, a, o, b));
            case 14 -> {
                int i = s.oneIn(5) ? s.among(-1, 8, 1 << 29, 1 << 28, Integer.MIN_VALUE, Integer.MAX_VALUE) : s.upTo(8);
                due("octet " + i + told, x.octet(k, a, i), m.octet(k, a, i));
            }
            default -> due("half" + told, x.half(k, a), m.half(k, a));
        }
        due("lost after" + told, x.lost(), m.lost);
    }

    /** One of the calls up to the last one that is promised. */
    private static void lastCall(FixedKinds x, Model m, Source s) {
        int k = s.number(m.kinds.size());
        int o = s.number(m.kinds.size());
        long a = s.raw(m.find(k));
        long b = s.raw(m.find(o));
        switch (s.upTo(3)) {
            case 0 -> makeKind(x, m, s);
            case 1 -> due("apply " + k + " " + a + ", " + o + " " + b, applied(x, 2, k, a, o, b), m.apply(2, k, a, o, b));
            case 2 -> due("text " + k + " " + a, x.text(k, a), m.text(k, a));
            default -> due("at 0", charAt(x, 0), m.at(0));
        }
    }

    public static void main(String[] args) {
        for (int run = 0; run < RUNS && wrong == 0; run++) {
            Source s = new Source(run);
            FixedKinds x = new FixedKinds();
            Model m = new Model();
            calls = 0;
            int ready = run % 7 == 0 ? 50 : s.upTo(8);
            for (int i = 0; i < ready; i++) {
                makeKind(x, m, s);
            }
            while (calls <= MOST_CALLS - MOST_CALLS_OF_A_STEP) {
                oneCall(x, m, s);
            }
            while (calls < MOST_CALLS) {
                lastCall(x, m, s);
            }
            if (calls != MOST_CALLS) {
                due("the calls of run " + run, calls, MOST_CALLS);
            }
        }
        System.out.println("OracleTest: " + (wrong == 0 ? "all answers are as due" : wrong + " answers are not as due"));
        if (wrong != 0) {
            System.exit(1);
        }
    }
}
