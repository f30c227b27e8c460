import java.util.LinkedHashMap;
import java.util.Map;
import java.util.function.Consumer;

/** Promise 6, lost(). */
public final class Promise6Test {
    private static final int SUM = 0;
    private static final int QUOTIENT = 3;

    // Kind 1 has whole numbers, kind 2 halves, kind 3 WRAPs, and there is a text.
    private static FixedKinds used(boolean withLoss) {
        FixedKinds x = Due.with(8, true, 1, 1, 0);
        x.kind(8, true, 1, 2, 0);
        x.kind(8, true, 1, 1, 0);
        x.rule(3, 1, 0);
        x.text(2, -1);
        x.convert(2, withLoss ? 1 : 2, 1);
        return x;
    }

    private static void leave(Map<String, Consumer<FixedKinds>> calls) {
        for (boolean withLoss : new boolean[] {false, true}) {
            for (Map.Entry<String, Consumer<FixedKinds>> call : calls.entrySet()) {
                FixedKinds x = used(withLoss);
                Due.is("lost() before " + call.getKey(), x.lost(), withLoss);
                call.getValue().accept(x);
                Due.is("lost() behind " + call.getKey(), x.lost(), withLoss);
            }
        }
    }

    @Says("Whether something was LOST by the last apply()")
    private static void promise6TheLastApply() {
        for (boolean withLoss : new boolean[] {false, true}) {
            FixedKinds x = used(withLoss);
            x.apply(SUM, 1, 127, 1, 0);
            Due.is("lost() by 127 + 0", x.lost(), false);
            x.apply(SUM, 1, 127, 1, 1);
            Due.is("lost() by 127 + 1", x.lost(), true);
            x.apply(QUOTIENT, 1, 6, 1, 3);
            Due.is("lost() by 6 / 3", x.lost(), false);
            x.apply(QUOTIENT, 1, 6, 1, 4);
            Due.is("lost() by 6 / 4", x.lost(), true);
        }
    }

    @Says("or convert()")
    private static void promise6TheLastConvert() {
        for (boolean withLoss : new boolean[] {false, true}) {
            FixedKinds x = used(withLoss);
            x.convert(1, 63, 2);
            Due.is("lost() by 63 in halves", x.lost(), false);
            x.convert(1, 64, 2);
            Due.is("lost() by 64 in halves", x.lost(), true);
            x.convert(2, 2, 1);
            Due.is("lost() by two halves", x.lost(), false);
            x.convert(2, 3, 1);
            Due.is("lost() by three halves", x.lost(), true);
        }
    }

    @Says("that was done (kinds and op were there)")
    private static void promise6WhatWasNotDone() {
        Map<String, Consumer<FixedKinds>> calls = new LinkedHashMap<>();
        calls.put("op -1", x -> x.apply(-1, 1, 1, 1, 1));
        calls.put("op 4", x -> x.apply(4, 1, 1, 1, 1));
        calls.put("op 4 with loss", x -> x.apply(4, 1, 127, 1, 127));
        calls.put("no kind", x -> x.apply(SUM, 4, 1, 1, 1));
        calls.put("no kind 0", x -> x.apply(SUM, 0, 1, 1, 1));
        calls.put("no other kind", x -> x.apply(SUM, 1, 127, 4, 127));
        calls.put("no other kind 0", x -> x.apply(QUOTIENT, 1, 127, 0, 0));
        calls.put("from no kind", x -> x.convert(4, 1, 1));
        calls.put("to no kind", x -> x.convert(2, 1, 4));
        calls.put("from and to no kind", x -> x.convert(0, 1, -1));
        leave(calls);
    }

    private static void byZero(FixedKinds x) {
        Due.noArithmetic("1 / 0", () -> x.apply(QUOTIENT, 3, 1, 1, 0));
    }

    @Says("nor one that throws")
    private static void promise6WhatThrows() {
        Map<String, Consumer<FixedKinds>> calls = new LinkedHashMap<>();
        calls.put("a quotient by 0", Promise6Test::byZero);
        calls.put("0 by 0", x -> Due.noArithmetic("0 / 0", () -> x.apply(QUOTIENT, 3, 0, 1, 0)));
        calls.put("at(-1)", x -> Due.noCharacter(x, -1));
        calls.put("at(4)", x -> Due.noCharacter(x, 4));
        leave(calls);
    }

    @Says("No other call changes it")
    private static void promise6OtherCallsThatAreDone() {
        Map<String, Consumer<FixedKinds>> calls = new LinkedHashMap<>();
        calls.put("kind()", x -> x.kind(8, true, 1, 1, 0));
        calls.put("rule()", x -> x.rule(1, 2, 2));
        calls.put("lost()", x -> x.lost());
        calls.put("physical()", x -> x.physical(2, 127, 1));
        calls.put("physical() brought in", x -> x.physical(2, 129, 0));
        calls.put("text()", x -> x.text(2, 127));
        calls.put("at()", x -> x.at(0));
        calls.put("bound()", x -> x.bound(2, 1));
        calls.put("compare()", x -> x.compare(1, 1, 2, 1));
        calls.put("compare() of the same", x -> x.compare(1, 1, 2, 2));
        calls.put("octet()", x -> x.octet(2, 300, 0));
        calls.put("half()", x -> x.half(2, 300));
        leave(calls);
    }

    @Says("No other call changes it")
    private static void promise6OtherCallsThatAreNot() {
        Map<String, Consumer<FixedKinds>> calls = new LinkedHashMap<>();
        calls.put("kind() outside", x -> x.kind(7, true, 1, 1, 0));
        calls.put("kind() with up 0", x -> x.kind(8, true, 0, 1, 0));
        calls.put("rule() of no kind", x -> x.rule(4, 0, 0));
        calls.put("rule() outside", x -> x.rule(1, 3, 0));
        calls.put("physical() of no side", x -> x.physical(2, 1, 4));
        calls.put("physical() of no kind", x -> x.physical(4, 1, 0));
        calls.put("text() of no kind", x -> x.text(4, 1));
        calls.put("bound() of no kind", x -> x.bound(4, 1));
        calls.put("compare() of no kind", x -> x.compare(4, 1, 1, 1));
        calls.put("octet() behind", x -> x.octet(1, 1, 1));
        calls.put("octet() of no kind", x -> x.octet(4, 1, 0));
        calls.put("half() of no kind", x -> x.half(4, 1));
        leave(calls);
    }

    public static void main(String[] args) {
        Due.run(Promise6Test.class);
    }
}
