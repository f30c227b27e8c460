import java.lang.reflect.InvocationTargetException;
import java.lang.reflect.Method;
import java.util.Arrays;
import java.util.Comparator;
import java.util.function.LongSupplier;

/** Runs the tests of a class, and prints each answer that is not the one that is due. */
final class Due {
    private static int wrong = 0;
    private static String running = "";

    private Due() {
    }

    static void fault(String what) {
        wrong++;
        System.out.println(running + ": " + what);
    }

    static void is(String call, long got, long want) {
        if (got != want) {
            fault(call + " answered " + got + ", due is " + want);
        }
    }

    static void is(String call, boolean got, boolean want) {
        if (got != want) {
            fault(call + " answered " + got + ", due is " + want);
        }
    }

    /** A number that was PUT, with nothing LOST by that. */
    static void exactly(String call, FixedKinds x, long got, long want) {
        is(call, got, want);
        is("lost() by " + call, x.lost(), false);
    }

    /** A number that was PUT, with something LOST by that. */
    static void withLoss(String call, FixedKinds x, long got, long want) {
        is(call, got, want);
        is("lost() by " + call, x.lost(), true);
    }

    static void noArithmetic(String call, LongSupplier asked) {
        thrown(call, ArithmeticException.class, asked);
    }

    static void noCharacter(FixedKinds x, int i) {
        thrown("at(" + i + ")", ArrayIndexOutOfBoundsException.class, () -> x.at(i));
    }

    private static void thrown(String call, Class<? extends RuntimeException> want, LongSupplier asked) {
        try {
            fault(call + " answered " + asked.getAsLong() + ", due is " + want.getSimpleName());
        } catch (RuntimeException e) {
            if (e.getClass() != want || isByMachine(e)) {
                fault(call + " threw " + e + ", due is " + want.getSimpleName() + " by a throw statement");
            }
        }
    }

    // The machine's own exceptions bear these texts.
    private static boolean isByMachine(RuntimeException e) {
        String text = String.valueOf(e.getMessage());
        return text.startsWith("Index ") || text.startsWith("/ by");
    }

    /** The last TEXT is the wanted one, as long as was answered, and nothing lies around it. */
    static void text(FixedKinds x, int answered, String want) {
        is("text() of " + want, answered, want.length());
        String got = State.text(x);
        if (!got.equals(want)) {
            fault("the text is " + got + ", due is " + want);
        }
        noCharacter(x, -1);
        noCharacter(x, want.length());
    }

    /** Two objects that should answer alike from now on; asking uses them up. */
    static void same(String what, FixedKinds got, FixedKinds want) {
        String gotState = State.of(got);
        String wantState = State.of(want);
        if (!gotState.equals(wantState)) {
            fault(what + " left " + gotState + ", due is " + wantState);
        }
    }

    /** A new object with one kind, of number 1. */
    static FixedKinds with(int width, boolean signed, long up, long down, long offset) {
        FixedKinds x = new FixedKinds();
        is("the first kind", x.kind(width, signed, up, down, offset), 1);
        return x;
    }

    static void run(Class<?> tests) {
        Method[] methods = tests.getDeclaredMethods();
        Arrays.sort(methods, Comparator.comparing(Method::getName));
        int count = 0;
        for (Method method : methods) {
            Says says = method.getAnnotation(Says.class);
            if (says != null) {
                running = method.getName() + " (\"" + says.value() + "\")";
                count++;
                runOne(method);
            }
        }
        running = tests.getSimpleName();
        if (count == 0) {
            fault("there are no tests");
        }
        System.out.println(running + ": " + count + " tests, "
                + (wrong == 0 ? "all answers are as due" : wrong + " answers are not as due"));
        if (wrong != 0) {
            System.exit(1);
        }
    }

    private static void runOne(Method method) {
        try {
            method.setAccessible(true);
            method.invoke(null);
        } catch (InvocationTargetException e) {
            fault("threw " + e.getCause());
        } catch (IllegalAccessException e) {
            fault("can't be run: " + e);
        }
    }
}
