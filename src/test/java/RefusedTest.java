import java.util.ArrayList;
import java.util.List;

/**
 * "A call that throws an exception changes nothing": each refused call is made in one of two houses that were told
 * the same; then both are asked everything, and go on with the same calls, and must answer alike. A login that is
 * refused in a rest, and each question, are looked at in the same way.
 */
public final class RefusedTest {
    /** A call on a house. */
    private interface Told {
        long on(VouchGate x);
    }

    /** One call, and what it must come to; an outcome of "" is any answer. */
    private record Row(String name, Told call, String due) {
    }

    private static final String OUT = "throws.IndexOutOfBoundsException";
    private static final String ARGUMENT = "throws.IllegalArgumentException";
    private static final String STATE = "throws.IllegalStateException";

    private static final int FRESH = 0;
    private static final int BUSY = 1;
    private static final int FULL = 2;

    /** Minutes until the logins that come next: at once, while the rests last, and in the minute that ends them. */
    private static final int[] WAITS = {0, 8, 9};

    public static void main(String[] args) {
        List<Row> always = new ArrayList<>();
        addLogins(always);
        addVouchings(always);
        addBadges(always);
        addKeys(always);
        addQuestions(always);
        changesNothing(FRESH, always);
        changesNothing(BUSY, always);
        changesNothing(FULL, always);
        changesNothing(FRESH, notPossibleInAFreshHouse());
        changesNothing(BUSY, notPossibleInABusyHouse());
        changesNothing(FULL, notPossibleWithAFullLog());
        changesNothing(FRESH, answeredQuestions());
        changesNothing(BUSY, answeredQuestions());
        Check.report();
    }

    private static void addLogins(List<Row> rows) {
        rows.add(new Row("word(-1, 5)", x -> Check.setWord(x, -1, 5), OUT));
        rows.add(new Row("word(12, 5)", x -> Check.setWord(x, 12, 5), OUT));
        rows.add(new Row("word(12, -1)", x -> Check.setWord(x, 12, -1), OUT));
        rows.add(new Row("word(0, -1)", x -> Check.setWord(x, 0, -1), ARGUMENT));
        rows.add(new Row("word(0, 1000)", x -> Check.setWord(x, 0, 1000), ARGUMENT));
        rows.add(new Row("word(11, 1000)", x -> Check.setWord(x, 11, 1000), ARGUMENT));
        rows.add(new Row("login(-1, 0, 0)", x -> x.login(-1, 0, 0), OUT));
        rows.add(new Row("login(12, 132, 4)", x -> x.login(12, 132, 4), OUT));
        rows.add(new Row("login(12, 1000, 10)", x -> x.login(12, 1000, 10), OUT));
        rows.add(new Row("login(0, -1, 0)", x -> x.login(0, -1, 0), ARGUMENT));
        rows.add(new Row("login(0, 1000, 0)", x -> x.login(0, 1000, 0), ARGUMENT));
        rows.add(new Row("login(0, 0, -1)", x -> x.login(0, 0, -1), ARGUMENT));
        rows.add(new Row("login(0, 0, 10)", x -> x.login(0, 0, 10), ARGUMENT));
        rows.add(new Row("login(5, 1000, 10)", x -> x.login(5, 1000, 10), ARGUMENT));
        rows.add(new Row("login(6, 1000, 0)", x -> x.login(6, 1000, 0), ARGUMENT));
        rows.add(new Row("pass(0)", x -> x.pass(0), ARGUMENT));
        rows.add(new Row("pass(-1)", x -> x.pass(-1), ARGUMENT));
        rows.add(new Row("pass(501)", x -> x.pass(501), ARGUMENT));
    }

    private static void addVouchings(List<Row> rows) {
        rows.add(new Row("vouch(-1, 4, 1)", x -> x.vouch(-1, 4, 1), OUT));
        rows.add(new Row("vouch(12, 4, 1)", x -> x.vouch(12, 4, 1), OUT));
        rows.add(new Row("vouch(0, -1, 1)", x -> x.vouch(0, -1, 1), OUT));
        rows.add(new Row("vouch(0, 3, 1)", x -> x.vouch(0, 3, 1), OUT));
        rows.add(new Row("vouch(0, 12, 1)", x -> x.vouch(0, 12, 1), OUT));
        rows.add(new Row("vouch(0, 0, 1)", x -> x.vouch(0, 0, 1), OUT));
        rows.add(new Row("vouch(12, 12, 0)", x -> x.vouch(12, 12, 0), OUT));
        rows.add(new Row("vouch(4, 4, 1)", x -> x.vouch(4, 4, 1), ARGUMENT));
        rows.add(new Row("vouch(11, 11, 63)", x -> x.vouch(11, 11, 63), ARGUMENT));
        rows.add(new Row("vouch(0, 4, 0)", x -> x.vouch(0, 4, 0), ARGUMENT));
        rows.add(new Row("vouch(0, 4, -1)", x -> x.vouch(0, 4, -1), ARGUMENT));
        rows.add(new Row("vouch(0, 4, 64)", x -> x.vouch(0, 4, 64), ARGUMENT));
        rows.add(new Row("vouch(1, 11, 64)", x -> x.vouch(1, 11, 64), ARGUMENT));
        rows.add(new Row("end(-1)", x -> x.end(-1), OUT));
        rows.add(new Row("end(3)", x -> x.end(3), OUT));
        rows.add(new Row("end(12)", x -> x.end(12), OUT));
    }

    private static void addBadges(List<Row> rows) {
        rows.add(new Row("lose(-1, 0)", x -> x.lose(-1, 0), OUT));
        rows.add(new Row("lose(12, 0)", x -> x.lose(12, 0), OUT));
        rows.add(new Row("lose(12, -1)", x -> x.lose(12, -1), OUT));
        rows.add(new Row("lose(0, -1)", x -> x.lose(0, -1), ARGUMENT));
        rows.add(new Row("lose(0, the next minute)", x -> x.lose(0, minuteOf(x) + 1), ARGUMENT));
        rows.add(new Row("lose(4, the highest)", x -> x.lose(4, Integer.MAX_VALUE), ARGUMENT));
        rows.add(new Row("issue(-1)", x -> x.issue(-1), OUT));
        rows.add(new Row("issue(12)", x -> x.issue(12), OUT));
        rows.add(new Row("door(-1, 0)", x -> x.door(-1, 0) ? 1 : 0, OUT));
        rows.add(new Row("door(12, 0)", x -> x.door(12, 0) ? 1 : 0, OUT));
        rows.add(new Row("door(0, -1)", x -> x.door(0, -1) ? 1 : 0, OUT));
        rows.add(new Row("door(0, 6)", x -> x.door(0, 6) ? 1 : 0, OUT));
    }

    private static void addKeys(List<Row> rows) {
        rows.add(new Row("share(-1, 1, 1)", x -> x.share(-1, 1, 1), OUT));
        rows.add(new Row("share(4, 1, 1)", x -> x.share(4, 1, 1), OUT));
        rows.add(new Row("share(4, 0, 0)", x -> x.share(4, 0, 0), OUT));
        rows.add(new Row("share(0, 0, 1)", x -> x.share(0, 0, 1), ARGUMENT));
        rows.add(new Row("share(0, -1, 1)", x -> x.share(0, -1, 1), ARGUMENT));
        rows.add(new Row("share(0, 4096, 1)", x -> x.share(0, 4096, 1), ARGUMENT));
        rows.add(new Row("share(3, 5, 0)", x -> x.share(3, 5, 0), ARGUMENT));
        rows.add(new Row("share(3, 5, 3)", x -> x.share(3, 5, 3), ARGUMENT));
        rows.add(new Row("share(3, 4095, 13)", x -> x.share(3, 4095, 13), ARGUMENT));
        rows.add(new Row("use(-1)", x -> x.use(-1) ? 1 : 0, OUT));
        rows.add(new Row("use(4)", x -> x.use(4) ? 1 : 0, OUT));
    }

    private static void addQuestions(List<Row> rows) {
        rows.add(new Row("of(-1, 0)", x -> x.of(-1, 0), OUT));
        rows.add(new Row("of(12, 8)", x -> x.of(12, 8), OUT));
        rows.add(new Row("of(0, -1)", x -> x.of(0, -1), ARGUMENT));
        rows.add(new Row("of(0, 8)", x -> x.of(0, 8), ARGUMENT));
        rows.add(new Row("taintedAnew(-1)", x -> x.taintedAnew(-1) ? 1 : 0, OUT));
        rows.add(new Row("taintedAnew(12)", x -> x.taintedAnew(12) ? 1 : 0, OUT));
        rows.add(new Row("chain(-1)", x -> x.chain(-1), OUT));
        rows.add(new Row("chain(12)", x -> x.chain(12), OUT));
        rows.add(new Row("ending(-1)", x -> x.ending(-1), OUT));
        rows.add(new Row("sign(-1, 0)", x -> x.sign(-1, 0), OUT));
        rows.add(new Row("sign(12, 0)", x -> x.sign(12, 0), OUT));
        rows.add(new Row("sign(0, -1)", x -> x.sign(0, -1), OUT));
        rows.add(new Row("keyOf(-1, 0)", x -> x.keyOf(-1, 0), OUT));
        rows.add(new Row("keyOf(4, 3)", x -> x.keyOf(4, 3), OUT));
        rows.add(new Row("keyOf(0, -1)", x -> x.keyOf(0, -1), ARGUMENT));
        rows.add(new Row("keyOf(0, 3)", x -> x.keyOf(0, 3), ARGUMENT));
    }

    private static List<Row> notPossibleInAFreshHouse() {
        List<Row> rows = new ArrayList<>();
        rows.add(new Row("word without a session", x -> Check.setWord(x, 2, 7), STATE));
        rows.add(new Row("staff vouch without a session", x -> x.vouch(0, 4, 1), STATE));
        rows.add(new Row("a guest vouches without a session", x -> x.vouch(5, 4, 1), STATE));
        rows.add(new Row("end of the lowest guest", x -> x.end(4), STATE));
        rows.add(new Row("end of the highest guest", x -> x.end(11), STATE));
        return rows;
    }

    private static List<Row> notPossibleInABusyHouse() {
        List<Row> rows = new ArrayList<>();
        rows.add(new Row("word behind a session", x -> Check.setWord(x, 3, 7), STATE));
        rows.add(new Row("word in a rest without a session", x -> Check.setWord(x, 6, 7), STATE));
        rows.add(new Row("vouch behind a session", x -> x.vouch(3, 11, 1), STATE));
        rows.add(new Row("vouch by one whose badge is lost", x -> x.vouch(2, 11, 1), STATE));
        rows.add(new Row("vouch by one of a bad vouching", x -> x.vouch(8, 4, 1), STATE));
        rows.add(new Row("vouch by one whose host is so", x -> x.vouch(9, 4, 1), STATE));
        rows.add(new Row("vouch by one of a ring", x -> x.vouch(10, 4, 1), STATE));
        rows.add(new Row("vouch by nobody's guest", x -> x.vouch(7, 4, 1), STATE));
        rows.add(new Row("end of nobody's guest", x -> x.end(7), STATE));
        rows.add(new Row("a right login in a rest", x -> x.login(5, 777, Check.code(5, 41)), "3"));
        rows.add(new Row("a wrong word in a rest", x -> x.login(5, 778, 0), "3"));
        rows.add(new Row("a wrong code in a rest", x -> x.login(6, 66, 9), "3"));
        return rows;
    }

    private static List<Row> notPossibleWithAFullLog() {
        List<Row> rows = new ArrayList<>();
        rows.add(new Row("the 101st vouching by staff", x -> x.vouch(1, 4, 1), STATE));
        rows.add(new Row("the 101st vouching by a guest", x -> x.vouch(4, 5, 1), STATE));
        rows.add(new Row("the 101st vouching for nobody's guest", x -> x.vouch(0, 11, 63), STATE));
        rows.add(new Row("end of nobody's guest", x -> x.end(11), STATE));
        return rows;
    }

    private static List<Row> answeredQuestions() {
        List<Row> rows = new ArrayList<>();
        rows.add(new Row("door", x -> x.door(4, 0) ? 1 : 0, ""));
        rows.add(new Row("use", x -> x.use(0) ? 1 : 0, ""));
        rows.add(new Row("taintedAnew", x -> x.taintedAnew(9) ? 1 : 0, ""));
        rows.add(new Row("chain", x -> x.chain(9), ""));
        rows.add(new Row("ending", x -> x.ending(1), ""));
        rows.add(new Row("sign", x -> x.sign(5, 2), ""));
        for (int n = 0; n < 8; n++) {
            int what = n;
            rows.add(new Row("of, what " + n, x -> x.of(9, what), ""));
            rows.add(new Row("keyOf, what " + n % 3, x -> x.keyOf(0, what % 3), ""));
        }
        return rows;
    }

    /** The minute, from the session of the person 1, who is logged in anew in a house of its own kind. */
    private static int minuteOf(VouchGate x) {
        return x.of(1, 6) == -1 ? 0 : x.of(1, 6) - 30;
    }

    private static VouchGate house(int kind) {
        VouchGate x = new VouchGate();
        if (kind == BUSY) {
            beBusy(x);
        }
        if (kind == FULL) {
            fillTheLog(x);
        }
        return x;
    }

    /** At the minute 41: sessions and ended ones, rests, failures, words, taint of both kinds, a ring, and keys. */
    private static void beBusy(VouchGate x) {
        Check.enter(x, 0, 3);
        x.pass(40);
        Check.enter(x, 40, 0, 1, 2, 4, 5, 7, 8, 9, 10, 11);
        x.word(4, 999);
        x.word(5, 777);
        x.vouch(0, 4, 63);
        x.vouch(4, 5, 7);
        x.vouch(2, 8, 3);
        x.vouch(8, 9, 3);
        x.vouch(0, 10, 1);
        x.vouch(10, 11, 1);
        x.vouch(11, 10, 1);
        x.lose(2, 40);
        x.issue(1);
        x.share(0, 0b10011, 2);
        x.share(3, 4095, 12);
        x.login(0, 1, 0);
        x.login(4, 1, 0);
        x.login(4, 1, 0);
        for (int n = 0; n < 3; n++) {
            x.login(5, 1, 0);
            x.login(6, 1, 0);
        }
        x.pass(1);
        Check.enter(x, 41, 1);
    }

    /** At the minute 7, with 100 vouchings in the log, none of them for 11. */
    private static void fillTheLog(VouchGate x) {
        x.pass(7);
        Check.enter(x, 7, 0, 1, 4, 5);
        for (int n = 1; n <= 100; n++) {
            x.vouch(n % 2, 4 + n % 7, 1 + n % 63);
        }
    }

    /** New houses for each look, as all of it would be more than the 512 calls that an object is used for. */
    private static void changesNothing(int kind, List<Row> rows) {
        for (Row row : rows) {
            String what = row.name() + " in house " + kind;
            Check.same(what + ", asked at once", asked(told(what, kind, row)), asked(house(kind)));
            for (int wait : WAITS) {
                VouchGate told = told(what, kind, row);
                VouchGate other = house(kind);
                Check.same(what + ", waiting " + wait, goneOn(told, wait), goneOn(other, wait));
                Check.same(what + ", asked then", asked(told), asked(other));
            }
        }
    }

    private static VouchGate told(String what, int kind, Row row) {
        VouchGate x = house(kind);
        for (int n = 0; n < 3; n++) {
            String got = Check.outcome(() -> row.call().on(x));
            Check.same(what, got, row.due().isEmpty() ? got : row.due());
        }
        return x;
    }

    /** All that can be asked. */
    private static String asked(VouchGate x) {
        StringBuilder text = new StringBuilder();
        for (int p = 0; p <= 11; p++) {
            for (int what = 0; what <= 7; what++) {
                text.append(x.of(p, what)).append(' ');
            }
            text.append(x.sign(p, 2)).append(' ').append(x.chain(p)).append(' ').append(x.ending(p)).append('\n');
        }
        for (int n = 0; n <= 11; n++) {
            text.append(x.keyOf(n / 3, n % 3)).append(' ');
        }
        askWhatTheHouseDoes(x, text);
        return text.toString();
    }

    /** These come last: if one of them changed something, it would hide in both houses what it had changed in one. */
    private static void askWhatTheHouseDoes(VouchGate x, StringBuilder text) {
        for (int p = 0; p <= 11; p++) {
            for (int room = 0; room <= 5; room++) {
                text.append(x.door(p, room)).append(' ');
            }
            text.append(x.taintedAnew(p)).append('\n');
        }
        for (int key = 0; key <= 3; key++) {
            text.append(x.use(key)).append(' ');
        }
    }

    /** Calls that show what no question shows: words, rests, the minute, the log's vouchings, the next badge. */
    private static String goneOn(VouchGate x, int wait) {
        StringBuilder text = new StringBuilder();
        int now = wait == 0 ? minuteOf(x) : x.pass(wait);
        text.append("minute ").append(now).append('\n');
        for (int p = 0; p <= 11; p++) {
            text.append(x.login(p, p == 4 ? 999 : p == 5 ? 777 : 11 * p, Check.code(p, now))).append(' ');
        }
        for (int guest = 4; guest <= 11; guest++) {
            int g = guest;
            text.append(Check.outcome(() -> x.vouch(1, g, 63))).append(' ');
            text.append(Check.outcome(() -> x.vouch(g, g == 11 ? 4 : 11, 63))).append(' ');
        }
        for (int p = 0; p <= 11; p++) {
            text.append(x.lose(p, 0)).append(' ').append(x.issue(p)).append(' ').append(x.lose(p, 0)).append('\n');
        }
        for (int guest = 4; guest <= 11; guest++) {
            int g = guest;
            text.append(Check.outcome(() -> x.end(g))).append(' ');
        }
        for (int key = 0; key <= 3; key++) {
            text.append(x.share(key, 1, 1)).append(' ').append(x.pass(1)).append('\n');
        }
        return text.toString();
    }
}
