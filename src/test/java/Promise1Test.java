/** Promise 1, a new object. */
public final class Promise1Test {
    private static final int[] NUMBERS = {1, 0, -1, 2, 40, 41, Integer.MIN_VALUE, Integer.MAX_VALUE};

    @Says("No kinds")
    private static void promise1NoKinds() {
        FixedKinds x = new FixedKinds();
        for (int kind : NUMBERS) {
            Due.is("bound of kind " + kind, x.bound(kind, 1), 0);
            Due.is("rule of kind " + kind, x.rule(kind, 0, 0), -1);
            Due.is("compare of kind " + kind, x.compare(kind, 0, kind, 0), -2);
            Due.is("text of kind " + kind, x.text(kind, 0), -1);
        }
    }

    @Says("nothing LOST")
    private static void promise1NothingLost() {
        Due.is("lost()", new FixedKinds().lost(), false);
    }

    @Says("no text")
    private static void promise1NoText() {
        FixedKinds x = new FixedKinds();
        for (int i : NUMBERS) {
            Due.noCharacter(x, i);
        }
    }

    @Says("A new object")
    private static void promise1AnotherObjectIsApart() {
        FixedKinds used = Due.with(8, true, 1, 1, 0);
        used.apply(0, 1, 127, 1, 1);
        used.text(1, 5);
        FixedKinds fresh = new FixedKinds();
        Due.is("its bound", fresh.bound(1, 1), 0);
        Due.is("its lost()", fresh.lost(), false);
        Due.noCharacter(fresh, 0);
    }

    @Says("An object is used for at most 512 calls after it has been made")
    private static void promise1FiveHundredAndTwelveCalls() {
        FixedKinds x = new FixedKinds();
        for (int i = 1; i <= 40; i++) {
            Due.is("kind " + i, x.kind(64, true, 1000, 1 + i, -1000000), i);
        }
        for (int call = 41; call < 512; call++) {
            Due.is("call " + call, x.text(40, Long.MIN_VALUE), 29);
        }
        Due.is("call 512", x.at(28), '1');
    }

    public static void main(String[] args) {
        Due.run(Promise1Test.class);
    }
}
