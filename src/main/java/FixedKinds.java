/** Kinds of fixed-point numbers, and exact arithmetic among their values. */
public final class FixedKinds {
    private static final int MOST_KINDS = 40;
    private static final int LEAST_WIDTH = 8;
    private static final int MOST_WIDTH = 64;
    private static final long MOST_SLOPE = 1000;
    private static final long MOST_OFFSET = 1000000;

    private static final int SATURATE = 0;
    private static final int WRAP = 1;
    private static final int REFUSE = 2;

    private static final int TOWARDS_ZERO = 0;
    private static final int DOWNWARDS = 1;
    private static final int HALF_AWAY = 2;
    private static final int HALF_EVEN = 3;

    private static final int SUM = 0;
    private static final int DIFFERENCE = 1;
    private static final int PRODUCT = 2;
    private static final int QUOTIENT = 3;

    private static final int UNKNOWN = -1;
    private static final int OUTSIDE = -2;
    private static final int NO_ROOM = -4;

    private static final int PLACES = 6;
    private static final long MILLION = 1000000;
    // Sign, 22 digits, point and six digits are the most that a value takes.
    private static final int TEXT_ROOM = 40;

    private static final int LIMB_BITS = 16;
    private static final long LIMB_MASK = 0xFFFFL;
    // The dearest number, a product made ready for its division, is below 2^156.
    private static final int LIMBS = 12;
    private static final int LONG_LIMBS = 4;
    private static final long LOW_32 = 0xFFFFFFFFL;

    private final Kind[] kinds;
    private int kindCount;
    private boolean somethingLost;
    // The text stands at the end of its row, since its digits come lowest first.
    private final char[] characters;
    private int textStart;
    // Made once and used again by every call.
    private final Fraction first;
    private final Fraction second;
    private final Whole result;

    public FixedKinds() {
        kinds = new Kind[MOST_KINDS];
        kindCount = 0;
        somethingLost = false;
        characters = new char[TEXT_ROOM];
        textStart = TEXT_ROOM;
        first = new Fraction();
        second = new Fraction();
        result = new Whole();
    }

    public int kind(int width, boolean signed, long up, long down, long offset) {
        if (!isWidth(width, signed) || !isSlope(up, down) || !isOffset(offset)) {
            return OUTSIDE;
        }
        if (kindCount < 0 || kindCount >= MOST_KINDS) {
            return NO_ROOM;
        }
        if (up == 0) {
            return 0;
        }
        kinds[kindCount] = new Kind(width, signed, up, down, offset);
        kindCount++;
        return kindCount;
    }

    public int rule(int kind, int overflow, int rounding) {
        Kind found = find(kind);
        if (found == null) {
            return UNKNOWN;
        }
        if (overflow < SATURATE || overflow > REFUSE || rounding < TOWARDS_ZERO || rounding > HALF_EVEN) {
            return OUTSIDE;
        }
        found.overflow = overflow;
        found.rounding = rounding;
        return 1;
    }

    public long apply(int op, int kind, long a, int other, long b) throws ArithmeticException {
        Kind left = find(kind);
        Kind right = find(other);
        if (left == null || right == null || op < SUM || op > QUOTIENT) {
            return 0;
        }
        first.take(left, a);
        second.take(right, b);
        if (op == QUOTIENT && second.sign() == 0) {
            if (left.overflow != SATURATE) {
                throw new ArithmeticException("a quotient by the value 0");
            }
            return putQuotientByZero(left);
        }
        combine(op);
        return put(left);
    }

    public long convert(int from, long v, int to) {
        Kind source = find(from);
        Kind target = find(to);
        if (source == null || target == null) {
            return 0;
        }
        first.take(source, v);
        return put(target);
    }

    public boolean lost() {
        return somethingLost;
    }

    public long physical(int kind, long v, int side) {
        Kind found = find(kind);
        if (found == null || side < 0 || side > 3) {
            return 0;
        }
        first.take(found, v);
        first.reduce(second.above);
        switch (side) {
            case 0:
                return first.below.bitsFrom(0);
            case 1:
                return first.above.bitsFrom(0) & LOW_32;
            case 2:
                return first.above.bitsFrom(2) & LOW_32;
            default:
                return first.above.bitsFrom(LONG_LIMBS);
        }
    }

    public int text(int kind, long v) {
        Kind found = find(kind);
        if (found == null) {
            return UNKNOWN;
        }
        first.take(found, v);
        boolean negative = first.above.isNegative();
        Whole millionths = first.toMillionths();
        boolean withSign = negative && !millionths.isZero();
        textStart = TEXT_ROOM;
        writePlaces(millionths);
        writeWholePart(millionths);
        if (withSign) {
            writeBefore('-');
        }
        return TEXT_ROOM - textStart;
    }

    public int at(int i) throws ArrayIndexOutOfBoundsException {
        if (i < 0 || textStart < 0 || i >= TEXT_ROOM - textStart) {
            throw new ArrayIndexOutOfBoundsException("no such character");
        }
        return characters[textStart + i];
    }

    public long bound(int kind, int side) {
        Kind found = find(kind);
        if (found == null) {
            return 0;
        }
        return side == 0 ? found.least() : found.greatest();
    }

    public int compare(int kind, long a, int other, long b) {
        Kind left = find(kind);
        Kind right = find(other);
        if (left == null || right == null) {
            return -2;
        }
        first.take(left, a);
        second.take(right, b);
        first.add(second, -1);
        return first.sign();
    }

    public byte octet(int kind, long v, int i) {
        Kind found = find(kind);
        if (found == null || i < 0 || i >= found.octets()) {
            return 0;
        }
        return (byte) (found.bits(v) >>> (8 * i));
    }

    public short half(int kind, long v) {
        Kind found = find(kind);
        if (found == null) {
            return 0;
        }
        int lowerBits = found.width - found.width / 2;
        return (short) (found.bits(v) >>> lowerBits);
    }

    private static boolean isWidth(int width, boolean signed) {
        return width >= LEAST_WIDTH && width <= (signed ? MOST_WIDTH : MOST_WIDTH - 1);
    }

    // An up of 0 is no refusal: it has an answer of its own.
    private static boolean isSlope(long up, long down) {
        return up >= 0 && up <= MOST_SLOPE && down >= 1 && down <= MOST_SLOPE;
    }

    private static boolean isOffset(long offset) {
        return offset >= -MOST_OFFSET && offset <= MOST_OFFSET;
    }

    private Kind find(int number) {
        if (number < 1 || number > kindCount || number > MOST_KINDS) {
            return null;
        }
        return kinds[number - 1];
    }

    private void combine(int op) {
        switch (op) {
            case SUM:
                first.add(second, 1);
                break;
            case DIFFERENCE:
                first.add(second, -1);
                break;
            case PRODUCT:
                first.multiply(second);
                break;
            default:
                first.divide(second);
                break;
        }
    }

    private long putQuotientByZero(Kind target) {
        int sign = first.sign();
        long raw = sign > 0 ? target.greatest() : target.least();
        if (sign == 0) {
            raw = put(target);
        }
        somethingLost = true;
        return raw;
    }

    /** Puts the first fraction into a kind. */
    private long put(Kind target) {
        first.toRawScale(target);
        boolean exact = first.round(target.rounding, result);
        boolean within = result.fitsLong() && target.isRaw(result.bitsFrom(0));
        somethingLost = !exact || !within;
        return within ? result.bitsFrom(0) : beyond(target);
    }

    private long beyond(Kind target) {
        switch (target.overflow) {
            case SATURATE:
                return result.isNegative() ? target.least() : target.greatest();
            case WRAP:
                return target.broughtIn(result.bitsFrom(0));
            default:
                return 0;
        }
    }

    private void writeBefore(char c) {
        if (textStart > 0 && textStart <= TEXT_ROOM) {
            textStart--;
            characters[textStart] = c;
        }
    }

    private void writeDigit(long digit) {
        writeBefore((char) ('0' + digit));
    }

    private void writePlaces(Whole millionths) {
        for (int place = 0; place < PLACES; place++) {
            long digit = millionths.shorten(10);
            if (digit != 0 || textStart < TEXT_ROOM) {
                writeDigit(digit);
            }
        }
        if (textStart < TEXT_ROOM) {
            writeBefore('.');
        }
    }

    private void writeWholePart(Whole number) {
        writeDigit(number.shorten(10));
        for (int place = 1; place < TEXT_ROOM && !number.isZero(); place++) {
            writeDigit(number.shorten(10));
        }
    }

    /** What was told of a kind, and its RAW numbers. */
    private static final class Kind {
        private final int width;
        private final boolean signed;
        private final long up;
        private final long down;
        private final long offset;
        private int overflow;
        private int rounding;

        private Kind(int width, boolean signed, long up, long down, long offset) {
            this.width = width;
            this.signed = signed;
            this.up = up;
            this.down = down;
            this.offset = offset;
            this.overflow = SATURATE;
            this.rounding = TOWARDS_ZERO;
        }

        private long least() {
            return signed ? -1L << (width - 1) : 0;
        }

        private long greatest() {
            return signed ? ~least() : (1L << width) - 1;
        }

        private boolean isRaw(long v) {
            return v >= least() && v <= greatest();
        }

        private long broughtIn(long v) {
            int unused = MOST_WIDTH - width;
            return signed ? v << unused >> unused : v << unused >>> unused;
        }

        private long bits(long v) {
            int unused = MOST_WIDTH - width;
            return v << unused >>> unused;
        }

        private int octets() {
            return (width + 7) / 8;
        }
    }

    /** A fraction: once a value is taken, its lower part is above 0. */
    private static final class Fraction {
        private final Whole above;
        private final Whole below;

        private Fraction() {
            above = new Whole();
            below = new Whole();
        }

        private void take(Kind kind, long told) {
            above.setTo(kind.broughtIn(told));
            above.scale(kind.up);
            above.grow(kind.offset * kind.down);
            below.setTo(kind.down);
        }

        private int sign() {
            if (above.isZero()) {
                return 0;
            }
            return above.isNegative() ? -1 : 1;
        }

        /** Adds the other one times 1 or -1, and uses it up. */
        private void add(Fraction other, long times) {
            above.multiply(other.below);
            other.above.multiply(below);
            above.addTimes(other.above, times);
            below.multiply(other.below);
        }

        private void multiply(Fraction other) {
            above.multiply(other.above);
            below.multiply(other.below);
        }

        private void divide(Fraction other) {
            above.multiply(other.below);
            below.multiply(other.above);
            if (below.isNegative()) {
                above.scale(-1);
                below.scale(-1);
            }
        }

        /** From a value to the number that, rounded, is RAW. */
        private void toRawScale(Kind kind) {
            above.addTimes(below, -kind.offset);
            above.scale(kind.down);
            below.scale(kind.up);
        }

        /** Rounds to a whole number, uses the fraction up, and tells whether it was whole. */
        private boolean round(int rounding, Whole rounded) {
            boolean negative = above.isNegative();
            if (negative) {
                above.scale(-1);
            }
            above.divide(below, rounded);
            boolean exact = above.isZero();
            if (!exact && isRoundedAway(rounding, negative, rounded.isOdd())) {
                rounded.grow(1);
            }
            if (negative) {
                rounded.scale(-1);
            }
            return exact;
        }

        /** Whether what remains above, and is not 0, takes a number one step away from 0. */
        private boolean isRoundedAway(int rounding, boolean negative, boolean odd) {
            if (rounding == TOWARDS_ZERO) {
                return false;
            }
            if (rounding == DOWNWARDS) {
                return negative;
            }
            above.scale(2);
            above.addTimes(below, -1);
            if (above.isZero()) {
                return rounding == HALF_AWAY || odd;
            }
            return !above.isNegative();
        }

        /** Brings a value just taken, whose lower part is small, to lowest terms. */
        private void reduce(Whole spare) {
            boolean negative = above.isNegative();
            if (negative) {
                above.scale(-1);
            }
            long down = below.bitsFrom(0);
            spare.copy(above);
            long common = commonDivisor(down, spare.shorten(down));
            if (common > 1) {
                above.shorten(common);
                below.shorten(common);
            }
            if (negative) {
                above.scale(-1);
            }
        }

        private static long commonDivisor(long a, long b) {
            long greater = a;
            long less = b;
            // Numbers up to 1000 need some fifteen steps at most.
            for (int step = 0; step < 64 && less != 0; step++) {
                long rest = greater % less;
                greater = less;
                less = rest;
            }
            return greater;
        }

        /** The size of a value just taken in millionths, a half rounded up. */
        private Whole toMillionths() {
            if (above.isNegative()) {
                above.scale(-1);
            }
            long down = below.bitsFrom(0);
            above.scale(2 * MILLION);
            above.grow(down);
            above.shorten(2 * down);
            return above;
        }
    }

    /** A whole number with sign: two's complement, 16 bits a limb, the lowest limb first. */
    private static final class Whole {
        // Limbs of 16 bits in longs leave room for sums of products without a carry.
        private final long[] limbs;

        private Whole() {
            limbs = new long[LIMBS];
        }

        private void setTo(long v) {
            long rest = v;
            for (int i = 0; i < LIMBS; i++) {
                limbs[i] = rest & LIMB_MASK;
                rest >>= LIMB_BITS;
            }
        }

        private void copy(Whole other) {
            for (int i = 0; i < LIMBS; i++) {
                limbs[i] = other.limbs[i];
            }
        }

        private boolean isNegative() {
            return limbs[LIMBS - 1] >> (LIMB_BITS - 1) != 0;
        }

        private boolean isZero() {
            return size() == 0;
        }

        private boolean isOdd() {
            return (limbs[0] & 1) != 0;
        }

        /** How many limbs there are up to the highest one that is not 0. */
        private int size() {
            int size = LIMBS;
            while (size > 0 && limbs[size - 1] == 0) {
                size--;
            }
            return size;
        }

        private long limb(int i) {
            return i >= 0 && i < LIMBS ? limbs[i] : 0;
        }

        /** The 64 bits from a limb on. */
        private long bitsFrom(int start) {
            long bits = 0;
            for (int i = LONG_LIMBS - 1; i >= 0; i--) {
                bits = bits << LIMB_BITS | limb(start + i);
            }
            return bits;
        }

        private boolean fitsLong() {
            long rest = bitsFrom(0);
            for (int i = 0; i < LIMBS; i++) {
                if (limbs[i] != (rest & LIMB_MASK)) {
                    return false;
                }
                rest >>= LIMB_BITS;
            }
            return true;
        }

        private void grow(long v) {
            long carry = v;
            for (int i = 0; i < LIMBS; i++) {
                carry += limbs[i];
                limbs[i] = carry & LIMB_MASK;
                carry >>= LIMB_BITS;
            }
        }

        private void scale(long factor) {
            long carry = 0;
            for (int i = 0; i < LIMBS; i++) {
                carry += limbs[i] * factor;
                limbs[i] = carry & LIMB_MASK;
                carry >>= LIMB_BITS;
            }
        }

        private void addTimes(Whole other, long factor) {
            addShifted(other, LIMBS, 0, factor);
        }

        /** Adds factor times another one of so many limbs, shifted by limbs, and answers the last carry. */
        private long addShifted(Whole other, int size, int shift, long factor) {
            long carry = 0;
            for (int i = shift; i >= 0 && i < LIMBS && i <= size + shift; i++) {
                carry += limbs[i] + other.limb(i - shift) * factor;
                limbs[i] = carry & LIMB_MASK;
                carry >>= LIMB_BITS;
            }
            return carry;
        }

        private void multiply(Whole other) {
            // From the highest limb down, since each one needs only those below it as they were.
            for (int i = LIMBS - 1; i >= 0; i--) {
                long sum = 0;
                for (int j = 0; j <= i; j++) {
                    sum += limbs[j] * other.limbs[i - j];
                }
                limbs[i] = sum;
            }
            grow(0);
        }

        /** Divides a number that is not below 0 by one above 0, and answers what remains. */
        private long shorten(long divisor) {
            if (divisor <= 0) {
                return 0;
            }
            long rest = 0;
            for (int i = LIMBS - 1; i >= 0; i--) {
                rest = rest << LIMB_BITS | limbs[i];
                limbs[i] = rest / divisor;
                rest %= divisor;
            }
            return rest;
        }

        /** Long division of a number that is not below 0 by one above 0: this one becomes what remains. */
        private void divide(Whole divisor, Whole quotient) {
            quotient.setTo(0);
            int size = divisor.size();
            if (size == 0) {
                return;
            }
            for (int shift = size() - size; shift >= 0; shift--) {
                long digit = guessDigit(divisor, size, shift);
                if (digit > 0 && addShifted(divisor, size, shift, -digit) < 0) {
                    // The guess was one too great.
                    addShifted(divisor, size, shift, 1);
                    digit--;
                }
                quotient.limbs[shift] = digit;
            }
        }

        /** The quotient's limb, or one more: three limbs over two tell it that closely. */
        private long guessDigit(Whole divisor, int size, int shift) {
            long over = divisor.limb(size - 1) << LIMB_BITS | divisor.limb(size - 2);
            if (over == 0) {
                return 0;
            }
            int top = size + shift;
            return ((limb(top) << LIMB_BITS | limb(top - 1)) << LIMB_BITS | limb(top - 2)) / over;
        }
    }
}
