import java.lang.reflect.Constructor;
import java.lang.reflect.Field;
import java.lang.reflect.Method;
import java.lang.reflect.Modifier;
import java.util.TreeSet;

/** Promises 12 and 15, of and ending, and the face of the class. */
public final class AskTest {
    public static void main(String[] args) {
        asking();
        endings();
        constants();
        face();
        inside();
        Check.report();
    }

    private static void asked(String what, VouchGate x, int person, int... due) {
        for (int n = 0; n < 8; n++) {
            Check.same("promise 12: " + what + ", what " + n, x.of(person, n), due[n]);
        }
    }

    private static void asking() {
        VouchGate x = new VouchGate();
        x.pass(4);
        Check.enter(x, 4, 1);
        x.vouch(1, 9, 42);
        x.login(9, 0, 0);
        x.issue(9);
        asked("staff", x, 1, 1, 1, 0, 63, -1, 0, 34, 1);
        asked("guest", x, 9, 0, 1, 0, 42, 1, 1, -1, 12);
        x.lose(1, 0);
        asked("tainted staff", x, 1, 1, 1, 1, 63, -1, 0, 34, 1);
        asked("tainted guest", x, 9, 0, 1, 1, 42, 1, 1, -1, 12);
        x.pass(30);
        x.end(9);
        asked("staff later", x, 1, 0, 1, 1, 63, -1, 0, -1, 1);
        asked("guest later", x, 9, 0, 0, 0, 0, -1, 1, -1, 12);
        Check.throwsOut("promise 12: person -1", () -> x.of(-1, 0));
        Check.throwsOut("promise 12: person 12 goes first", () -> x.of(12, 8));
        Check.throwsArgument("promise 12: what -1", () -> x.of(0, -1));
        Check.throwsArgument("promise 12: what 8", () -> x.of(0, 8));
    }

    private static void ranks(String what, VouchGate x, int... due) {
        for (int rank = 0; rank < due.length; rank++) {
            Check.same("promise 15: " + what + ", rank " + rank, x.ending(rank), due[rank]);
        }
        Check.same("promise 15: " + what + ", not so many", x.ending(due.length), -1);
        Check.same("promise 15: " + what + ", far from so many", x.ending(Integer.MAX_VALUE), -1);
    }

    private static void endings() {
        VouchGate x = new VouchGate();
        ranks("nobody", x);
        Check.enter(x, 0, 11, 3, 7);
        ranks("like minutes", x, 3, 7, 11);
        x.pass(5);
        Check.enter(x, 5, 0, 3);
        ranks("later ones behind", x, 7, 11, 0, 3);
        x.pass(5);
        Check.enter(x, 10, 11);
        ranks("begun anew", x, 7, 0, 3, 11);
        x.pass(20);
        ranks("the first one ended", x, 0, 3, 11);
        Check.enter(x, 30, 0, 1, 2, 3, 4, 5, 6, 7, 8, 9, 10, 11);
        ranks("all", x, 0, 1, 2, 3, 4, 5, 6, 7, 8, 9, 10, 11);
        x.pass(30);
        ranks("all ended", x);
        Check.throwsOut("promise 15: -1", () -> x.ending(-1));
        Check.throwsOut("promise 15: lowest", () -> x.ending(Integer.MIN_VALUE));
    }

    private static void constants() {
        Check.same("NONE", VouchGate.NONE, -1);
        Check.same("IN", VouchGate.IN, 0);
        Check.same("WRONG_WORD", VouchGate.WRONG_WORD, 1);
        Check.same("WRONG_CODE", VouchGate.WRONG_CODE, 2);
        Check.same("RESTS", VouchGate.RESTS, 3);
    }

    /** The face is the document's, and there is nothing beside it that another class can see. */
    private static void face() {
        TreeSet<String> seen = new TreeSet<>();
        for (Method method : VouchGate.class.getDeclaredMethods()) {
            if (!Modifier.isPrivate(method.getModifiers())) {
                seen.add(described(method));
            }
        }
        for (Field field : VouchGate.class.getDeclaredFields()) {
            if (!Modifier.isPrivate(field.getModifiers())) {
                seen.add(Modifier.toString(field.getModifiers()) + " " + field.getType() + " " + field.getName());
            }
        }
        for (Constructor<?> constructor : VouchGate.class.getDeclaredConstructors()) {
            seen.add(Modifier.toString(constructor.getModifiers()) + " " + constructor.getParameterCount());
        }
        TreeSet<String> due = new TreeSet<>();
        for (String line : FACE.split("\n")) {
            due.add(line.trim());
        }
        Check.same("the face", seen.toString(), due.toString());
        Check.same("the class", Modifier.toString(VouchGate.class.getModifiers()), "public final");
    }

    /** LANGUAGE.md, rules 1 and 5: what stands inside is static, static fields are final, and no private name is a public one. */
    private static void inside() {
        TreeSet<String> names = new TreeSet<>();
        for (Method method : VouchGate.class.getDeclaredMethods()) {
            if (Modifier.isPublic(method.getModifiers())) {
                names.add(method.getName());
            }
        }
        insideOf(VouchGate.class, names);
        for (Class<?> inner : VouchGate.class.getDeclaredClasses()) {
            Check.yes("static: " + inner, Modifier.isStatic(inner.getModifiers()));
            Check.no("seen from outside: " + inner,
                Modifier.isPublic(inner.getModifiers()) || Modifier.isProtected(inner.getModifiers()));
            insideOf(inner, names);
        }
    }

    private static void insideOf(Class<?> type, TreeSet<String> names) {
        for (Method method : type.getDeclaredMethods()) {
            boolean faces = Modifier.isPublic(method.getModifiers());
            Check.no("a name of the face: " + method, !faces && names.contains(method.getName()));
        }
        for (Field field : type.getDeclaredFields()) {
            int modifiers = field.getModifiers();
            Check.no("static and not final: " + field, Modifier.isStatic(modifiers) && !Modifier.isFinal(modifiers));
        }
    }

    private static String described(Method method) {
        StringBuilder text = new StringBuilder(Modifier.toString(method.getModifiers()));
        text.append(' ').append(method.getReturnType()).append(' ').append(method.getName());
        text.append(' ').append(method.getParameterCount());
        for (Class<?> thrown : method.getExceptionTypes()) {
            text.append(' ').append(thrown.getSimpleName().replace("Exception", ""));
        }
        return text.toString();
    }

    private static final String FACE = """
            public 0
            public static final int NONE
            public static final int IN
            public static final int WRONG_WORD
            public static final int WRONG_CODE
            public static final int RESTS
            public void word 2 IndexOutOfBounds IllegalArgument IllegalState
            public int login 3 IndexOutOfBounds IllegalArgument
            public int pass 1 IllegalArgument
            public int vouch 3 IndexOutOfBounds IllegalArgument IllegalState
            public int end 1 IndexOutOfBounds IllegalState
            public int lose 2 IndexOutOfBounds IllegalArgument
            public int issue 1 IndexOutOfBounds
            public boolean door 2 IndexOutOfBounds
            public int share 3 IndexOutOfBounds IllegalArgument
            public boolean use 1 IndexOutOfBounds
            public int of 2 IndexOutOfBounds IllegalArgument
            public boolean taintedAnew 1 IndexOutOfBounds
            public int chain 1 IndexOutOfBounds
            public int ending 1 IndexOutOfBounds
            public char sign 2 IndexOutOfBounds
            public int keyOf 2 IndexOutOfBounds IllegalArgument""";
}
