/** Promises 7, 8, 13 and 16: lose, issue, taintedAnew, sign. */
public final class BadgeTest {
    public static void main(String[] args) {
        sinceMinutes();
        onlyBadVouchingsTaint();
        badForGood();
        theBadgeBefore();
        vouchedForAnew();
        ringsOfTaint();
        wrongLosses();
        issuing();
        signs();
        longLog();
        Check.report();
    }

    /** Looks at all persons, by the state and anew from the log. */
    private static void tainted(String what, VouchGate x, int... persons) {
        int set = 0;
        for (int p : persons) {
            set |= 1 << p;
        }
        for (int p = 0; p < 12; p++) {
            Check.same(what + ", tainted " + p, x.of(p, 2), set >> p & 1);
            Check.same("promise 13: " + what + ", " + p, x.taintedAnew(p) ? 1 : 0, set >> p & 1);
        }
    }

    private static void sinceMinutes() {
        VouchGate x = new VouchGate();
        Check.enter(x, 0, 0);
        x.vouch(0, 4, 1);
        x.pass(5);
        x.vouch(0, 5, 1);
        x.pass(5);
        x.vouch(0, 6, 1);
        tainted("promise 7: none lost", x);
        Check.same("promise 7: since now", x.lose(0, 10), 2);
        tainted("promise 7: since now", x, 0, 6);
        Check.same("promise 7: one minute later than one", x.lose(0, 6), 2);
        Check.same("promise 7: at that minute", x.lose(0, 5), 3);
        tainted("promise 7: at that minute", x, 0, 5, 6);
        Check.same("promise 7: a later since takes none back", x.lose(0, 10), 3);
        Check.same("promise 7: since 0", x.lose(0, 0), 4);
        tainted("promise 7: since 0", x, 0, 4, 5, 6);
        Check.same("promise 7: others count, too", x.lose(11, 0), 5);
    }

    private static void onlyBadVouchingsTaint() {
        VouchGate x = new VouchGate();
        Check.enter(x, 0, 0, 4, 5);
        x.vouch(0, 4, 1);
        x.vouch(4, 5, 1);
        x.vouch(5, 6, 1);
        x.pass(1);
        Check.same("promise 7: a lost badge alone taints no guest", x.lose(4, 1), 1);
        tainted("promise 7: the loser alone", x, 4);
        Check.same("promise 7: down the chain", x.lose(4, 0), 3);
        tainted("promise 7: down the chain", x, 4, 5, 6);
        Check.same("promise 7: further up", x.lose(0, 0), 4);
        tainted("promise 7: further up", x, 0, 4, 5, 6);
        x.issue(4);
        tainted("promise 8: tainted by the host still", x, 0, 4, 5, 6);
        x.end(4);
        tainted("promise 6: ended taint", x, 0, 5, 6);
    }

    private static void badForGood() {
        VouchGate x = new VouchGate();
        Check.enter(x, 0, 0, 1, 4);
        x.vouch(0, 4, 1);
        x.lose(0, 0);
        Check.same("promise 8: number", x.issue(0), 12);
        tainted("promise 8: nobody else is freed", x, 4);
        x.vouch(1, 4, 1);
        tainted("vouched for by another", x);
        x.vouch(4, 5, 1);
        x.lose(0, 0);
        tainted("promise 7: the replaced one counts no more", x, 0);
        x.end(4);
        tainted("ended", x, 0);
    }

    private static void theBadgeBefore() {
        VouchGate x = new VouchGate();
        Check.enter(x, 0, 0);
        x.vouch(0, 4, 1);
        Check.same("promise 8: without a loss", x.issue(0), 12);
        x.vouch(0, 5, 1);
        Check.same("promise 8: the one before can't be lost", x.lose(0, 0), 2);
        tainted("promise 8: the badge before", x, 0, 5);
        x.issue(0);
        Check.same("promise 7: a badge that vouched for nobody", x.lose(0, 0), 2);
        tainted("promise 7: a badge that vouched for nobody", x, 0, 5);
    }

    private static void vouchedForAnew() {
        VouchGate x = new VouchGate();
        Check.enter(x, 0, 0, 4, 5);
        x.vouch(0, 4, 1);
        x.vouch(4, 5, 1);
        x.vouch(5, 6, 1);
        x.lose(4, 0);
        x.vouch(0, 6, 1);
        tainted("vouched for anew", x, 4, 5);
        x.issue(4);
        x.vouch(4, 5, 1);
        tainted("vouched for anew with the new badge", x);
        x.vouch(5, 6, 1);
        x.lose(0, 0);
        tainted("all by the first", x, 0, 4, 5, 6);
        x.issue(0);
        x.vouch(0, 5, 1);
        tainted("in the middle", x, 4);
    }

    private static void ringsOfTaint() {
        VouchGate x = new VouchGate();
        Check.enter(x, 0, 0, 4, 5, 6);
        x.vouch(0, 4, 1);
        x.vouch(4, 5, 1);
        x.vouch(5, 6, 1);
        x.vouch(5, 7, 1);
        x.vouch(6, 4, 1);
        tainted("a ring taints nobody", x);
        Check.same("promise 7: around a ring", x.lose(5, 0), 4);
        tainted("around a ring", x, 4, 5, 6, 7);
        x.issue(5);
        tainted("around a ring, the badge anew", x, 4, 5, 6, 7);
        x.end(6);
        tainted("an opened ring", x, 7);
        x.lose(4, 0);
        tainted("an opened ring, lost at its head", x, 4, 5, 7);
        x.issue(4);
        x.end(5);
        tainted("a ring without the bad one", x, 7);
    }

    private static void wrongLosses() {
        VouchGate x = new VouchGate();
        x.pass(7);
        Check.throwsOut("promise 7: person -1", () -> x.lose(-1, 0));
        Check.throwsOut("promise 7: person 12 goes first", () -> x.lose(12, -1));
        Check.throwsArgument("promise 7: since -1", () -> x.lose(0, -1));
        Check.throwsArgument("promise 7: since 8", () -> x.lose(0, 8));
        tainted("promise 7: throwing changes nothing", x);
        Check.same("promise 7: since the present minute", x.lose(0, 7), 1);
        Check.throwsOut("promise 8: -1", () -> x.issue(-1));
        Check.throwsOut("promise 8: 12", () -> x.issue(12));
        tainted("promise 8: throwing changes nothing", x, 0);
        Check.throwsOut("promise 13: -1", () -> x.taintedAnew(-1) ? 1 : 0);
        Check.throwsOut("promise 13: 12", () -> x.taintedAnew(12) ? 1 : 0);
    }

    private static void issuing() {
        VouchGate x = new VouchGate();
        for (int n = 0; n < 40; n++) {
            Check.same("promise 8: number", x.issue(n % 12), 12 + n);
            Check.same("promise 8: badge", x.of(n % 12, 7), 12 + n);
        }
        Check.same("promise 8: others keep theirs", x.of(4, 7), 12 + 28);
        x.lose(4, 0);
        x.issue(5);
        tainted("promise 8: another's badge frees nobody", x, 4);
        x.issue(4);
        tainted("promise 8: the own one frees", x);
    }

    private static void spelled(VouchGate x, int person) {
        int badge = x.of(person, 7);
        String digits = new StringBuilder(String.valueOf(badge)).reverse().toString();
        String due = person + "-" + digits + (char) ('A' + (3 * badge + person) % 26);
        read(x, person, due);
    }

    /** In a house of its own, as an object is used for 512 calls only. */
    private static void spelled(int badge) {
        VouchGate x = new VouchGate();
        int person = badge % 12;
        for (int n = 12; n <= badge; n++) {
            x.issue(person);
        }
        spelled(x, person);
    }

    private static void read(VouchGate x, int person, String due) {
        for (int place = 0; place < due.length(); place++) {
            Check.same("promise 16: " + due + " at " + place, x.sign(person, place), due.charAt(place));
        }
        Check.same("promise 16: behind " + due, x.sign(person, due.length()), 0);
        Check.same("promise 16: far behind " + due, x.sign(person, Integer.MAX_VALUE), 0);
    }

    private static void signs() {
        VouchGate x = new VouchGate();
        read(x, 0, "0-0A");
        read(x, 10, "10-01O");
        read(x, 11, "11-11S");
        x.issue(5);
        read(x, 5, "5-21P");
        for (int p = 0; p < 12; p++) {
            spelled(x, p);
        }
        for (int badge = 12; badge <= 511; badge++) {
            spelled(badge);
        }
        Check.throwsOut("promise 16: person -1", () -> x.sign(-1, 0));
        Check.throwsOut("promise 16: person 12", () -> x.sign(12, 0));
        Check.throwsOut("promise 16: place -1", () -> x.sign(0, -1));
        Check.throwsOut("promise 16: lowest place", () -> x.sign(0, Integer.MIN_VALUE));
    }

    /** As many events as the promised calls can hold: 1 login, 510 events, 1 question. */
    private static void longLog() {
        VouchGate x = new VouchGate();
        Check.enter(x, 0, 0);
        for (int n = 0; n < 508; n++) {
            x.issue(n % 12);
        }
        x.vouch(0, 4, 1);
        x.lose(0, 0);
        Check.yes("promise 13: the last of all events", x.taintedAnew(4));
    }
}
