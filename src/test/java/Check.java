/** Counts what is not as it is due; a test's main method ends with report(). */
final class Check {
    /** A call of the face. */
    interface Call {
        long answer();
    }

    private static int wrong = 0;

    private Check() {
    }

    static void same(String what, long got, long due) {
        if (got != due) {
            tell(what, String.valueOf(got), String.valueOf(due));
        }
    }

    static void yes(String what, boolean got) {
        same(what, got ? 1 : 0, 1);
    }

    static void no(String what, boolean got) {
        same(what, got ? 1 : 0, 0);
    }

    static void same(String what, String got, String due) {
        if (!got.equals(due)) {
            tell(what, got, due);
        }
    }

    static int code(int person, int minute) {
        return (7 * person + 3 * minute) % 10;
    }

    /** Logs persons in who have their first words still. */
    static void enter(VouchGate x, int minute, int... persons) {
        for (int p : persons) {
            same("login of " + p, x.login(p, 11 * p, code(p, minute)), VouchGate.IN);
        }
    }

    /** A call of word, which answers nothing, with an answer. */
    static long setWord(VouchGate x, int person, int word) {
        x.word(person, word);
        return 0;
    }

    /** The very class is compared: a machine's exception below the one that is due is a fault. */
    static void throwsOut(String what, Call call) {
        same(what, outcome(call), "throws.IndexOutOfBoundsException");
    }

    static void throwsArgument(String what, Call call) {
        same(what, outcome(call), "throws.IllegalArgumentException");
    }

    static void throwsState(String what, Call call) {
        same(what, outcome(call), "throws.IllegalStateException");
    }

    /** The answer of a call as a text, or the name of what it throws. */
    static String outcome(Call call) {
        try {
            return String.valueOf(call.answer());
        } catch (RuntimeException e) {
            return "throws." + e.getClass().getSimpleName();
        }
    }

    private static void tell(String what, String got, String due) {
        wrong++;
        if (wrong <= 50) {
            System.out.println(what + ": answered " + got + ", due is " + due);
        }
    }

    static void report() {
        if (wrong > 0) {
            System.out.println(wrong + " wrong");
            System.exit(1);
        }
    }
}
