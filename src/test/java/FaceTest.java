import java.lang.reflect.Constructor;
import java.lang.reflect.Field;
import java.lang.reflect.Method;
import java.lang.reflect.Modifier;
import java.util.Arrays;
import java.util.Set;
import java.util.TreeSet;

/** The class shows the document's face, and no more. */
public final class FaceTest {
    private static final Set<String> FACE = new TreeSet<>(Arrays.asList(
            "public FixedKinds()",
            "public int FixedKinds.kind(int,boolean,long,long,long)",
            "public int FixedKinds.rule(int,int,int)",
            "public long FixedKinds.apply(int,int,long,int,long) throws java.lang.ArithmeticException",
            "public long FixedKinds.convert(int,long,int)",
            "public boolean FixedKinds.lost()",
            "public long FixedKinds.physical(int,long,int)",
            "public int FixedKinds.text(int,long)",
            "public int FixedKinds.at(int) throws java.lang.ArrayIndexOutOfBoundsException",
            "public long FixedKinds.bound(int,int)",
            "public int FixedKinds.compare(int,long,int,long)",
            "public byte FixedKinds.octet(int,long,int)",
            "public short FixedKinds.half(int,long)"));
    private static int wrong = 0;

    private static void fault(String what) {
        wrong++;
        System.out.println(what);
    }

    private static void collect(Set<String> seen, Set<String> names) {
        for (Constructor<?> c : FixedKinds.class.getDeclaredConstructors()) {
            seen.add(c.toString());
        }
        for (Method m : FixedKinds.class.getDeclaredMethods()) {
            if (!Modifier.isPrivate(m.getModifiers())) {
                seen.add(m.toString());
                names.add(m.getName());
            }
        }
        for (Field f : FixedKinds.class.getDeclaredFields()) {
            if (!Modifier.isPrivate(f.getModifiers())) {
                seen.add(f.toString());
            }
        }
    }

    private static void noPrivateNamesake(Class<?> type, Set<String> names) {
        for (Method m : type.getDeclaredMethods()) {
            if (Modifier.isPrivate(m.getModifiers()) && names.contains(m.getName())) {
                fault("a private method bears a public one's name: " + m);
            }
        }
    }

    private static void staticFieldsAreFinal(Class<?> type) {
        for (Field f : type.getDeclaredFields()) {
            int modifiers = f.getModifiers();
            if (Modifier.isStatic(modifiers) && !Modifier.isFinal(modifiers)) {
                fault("a static field is not final: " + f);
            }
        }
    }

    public static void main(String[] args) {
        Set<String> seen = new TreeSet<>();
        Set<String> names = new TreeSet<>();
        collect(seen, names);
        if (!seen.equals(FACE)) {
            fault("the face is " + seen + ", due is " + FACE);
        }
        if (!Modifier.isFinal(FixedKinds.class.getModifiers()) || !Modifier.isPublic(FixedKinds.class.getModifiers())) {
            fault("the class is not public and final");
        }
        noPrivateNamesake(FixedKinds.class, names);
        staticFieldsAreFinal(FixedKinds.class);
        for (Class<?> inside : FixedKinds.class.getDeclaredClasses()) {
            noPrivateNamesake(inside, names);
            staticFieldsAreFinal(inside);
            if (!Modifier.isStatic(inside.getModifiers())) {
                fault("a class inside is not static: " + inside);
            }
        }
        System.out.println("FaceTest: " + (wrong == 0 ? "the face is as due" : wrong + " faults"));
        if (wrong != 0) {
            System.exit(1);
        }
    }
}
