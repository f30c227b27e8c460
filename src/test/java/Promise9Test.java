/** Promise 9, at(). */
public final class Promise9Test {
    private static final int[] FAR = {-2, 31, 39, 40, 41, 256, 65536, Integer.MIN_VALUE, Integer.MAX_VALUE};

    private static FixedKinds eighths() {
        return Due.with(8, true, 1, 8, 0);
    }

    @Says("Character i of the last TEXT.")
    private static void promise9EachCharacter() {
        FixedKinds x = eighths();
        Due.is("text()", x.text(1, -127), 7);
        String want = "-15.875";
        for (int i = 0; i < want.length(); i++) {
            Due.is("at(" + i + ")", x.at(i), want.charAt(i));
        }
    }

    @Says("ArrayIndexOutOfBoundsException before")
    private static void promise9Before() {
        FixedKinds x = eighths();
        x.text(1, -127);
        Due.noCharacter(x, -1);
        Due.is("at(0)", x.at(0), '-');
    }

    @Says("and behind it")
    private static void promise9Behind() {
        FixedKinds x = eighths();
        x.text(1, -127);
        Due.is("at(6)", x.at(6), '5');
        Due.noCharacter(x, 7);
        Due.noCharacter(x, 8);
    }

    @Says("before and behind it")
    private static void promise9FarOutside() {
        FixedKinds x = eighths();
        x.text(1, 8);
        for (int i : FAR) {
            Due.noCharacter(x, i);
        }
        Due.is("at(0)", x.at(0), '1');
    }

    @Says("(all, if there was none)")
    private static void promise9NoText() {
        FixedKinds x = eighths();
        for (int i = -1; i <= 1; i++) {
            Due.noCharacter(x, i);
        }
        for (int i : FAR) {
            Due.noCharacter(x, i);
        }
    }

    @Says("(all, if there was none)")
    private static void promise9ARefusedTextIsNone() {
        FixedKinds x = eighths();
        Due.is("text()", x.text(2, 8), -1);
        Due.noCharacter(x, 0);
    }

    @Says("the last TEXT")
    private static void promise9AShorterOneBehindALongerOne() {
        FixedKinds x = eighths();
        x.text(1, -127);
        Due.text(x, x.text(1, 8), "1");
        for (int i = 1; i <= 7; i++) {
            Due.noCharacter(x, i);
        }
    }

    @Says("the last TEXT")
    private static void promise9ALongerOneBehindAShorterOne() {
        FixedKinds x = eighths();
        x.text(1, 8);
        Due.text(x, x.text(1, -127), "-15.875");
    }

    @Says("the last TEXT")
    private static void promise9OtherCallsLeaveIt() {
        FixedKinds x = eighths();
        x.text(1, -127);
        x.kind(16, true, 3, 7, -100);
        x.rule(1, 2, 3);
        x.apply(3, 1, 100, 2, 100);
        x.convert(1, 7, 2);
        x.lost();
        x.physical(2, 5, 1);
        x.bound(1, 0);
        x.compare(1, 1, 2, 2);
        x.octet(1, 1, 0);
        x.half(1, 1);
        x.text(3, 1);
        x.rule(2, 1, 0);
        Due.noArithmetic("-100 / 0", () -> x.apply(3, 2, 0, 1, 0));
        Due.text(x, 7, "-15.875");
    }

    private static FixedKinds used(boolean withLoss) {
        FixedKinds x = eighths();
        x.text(1, -127);
        x.kind(8, true, 1, 1, 0);
        x.convert(1, withLoss ? 1 : 8, 2);
        return x;
    }

    @Says("ArrayIndexOutOfBoundsException before and behind it")
    private static void promise9AThrowChangesNothing() {
        for (boolean withLoss : new boolean[] {false, true}) {
            FixedKinds x = used(withLoss);
            Due.noCharacter(x, -1);
            Due.noCharacter(x, 7);
            Due.same("an at() outside", x, used(withLoss));
        }
    }

    public static void main(String[] args) {
        Due.run(Promise9Test.class);
    }
}
