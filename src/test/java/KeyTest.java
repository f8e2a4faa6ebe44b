/** Promises 10, 11 and 17: share, use, keyOf. */
public final class KeyTest {
    public static void main(String[] args) {
        newKeys();
        sharing();
        using();
        wrongCalls();
        Check.report();
    }

    private static void newKeys() {
        VouchGate x = new VouchGate();
        Check.enter(x, 0, 0, 1, 2, 3);
        for (int key = 0; key < 4; key++) {
            Check.same("promise 17: no keepers at first", x.keyOf(key, 0), 0);
            Check.same("promise 17: threshold 1 at first", x.keyOf(key, 1), 1);
            Check.same("promise 17: nobody could use it", x.keyOf(key, 2), 0);
            Check.no("promise 11: opens for nobody", x.use(key));
        }
    }

    private static void sharing() {
        VouchGate x = new VouchGate();
        Check.same("promise 10: had 1", x.share(3, 4095, 12), 1);
        Check.same("promise 17: keepers", x.keyOf(3, 0), 4095);
        Check.same("promise 17: threshold", x.keyOf(3, 1), 12);
        Check.same("promise 10: had 12", x.share(3, 0b101, 2), 12);
        Check.same("promise 17: keepers anew", x.keyOf(3, 0), 0b101);
        Check.same("promise 10: had 2", x.share(3, 2048, 1), 2);
        Check.same("promise 17: other keys keep theirs", x.keyOf(2, 0), 0);
        Check.same("promise 17: and their thresholds", x.keyOf(2, 1), 1);
    }

    private static void using() {
        VouchGate x = new VouchGate();
        x.share(0, 1 | 2 | 16 | 2048, 2);
        Check.no("promise 11: nobody in a session", x.use(0));
        Check.enter(x, 0, 0, 4, 11, 3);
        Check.same("promise 17: guests are not trusted", x.keyOf(0, 2), 1);
        Check.no("promise 11: one of two", x.use(0));
        x.vouch(0, 4, 1);
        Check.same("promise 17: a trusted guest", x.keyOf(0, 2), 2);
        Check.yes("promise 11: as many as the threshold", x.use(0));
        x.vouch(4, 11, 1);
        Check.same("promise 17: more", x.keyOf(0, 2), 3);
        Check.yes("promise 11: more than the threshold", x.use(0));
        x.lose(4, 0);
        Check.same("promise 17: tainted ones do not count", x.keyOf(0, 2), 1);
        Check.no("promise 11: too many tainted", x.use(0));
        x.issue(4);
        Check.yes("promise 11: one untainted", x.use(0));
        Check.yes("promise 11: using it uses nothing up", x.use(0));
        x.pass(29);
        Check.yes("promise 11: last minute", x.use(0));
        x.pass(1);
        Check.no("promise 11: sessions ended", x.use(0));
        Check.same("promise 17: sessions ended", x.keyOf(0, 2), 0);
        Check.enter(x, 30, 0);
        Check.no("promise 11: one again", x.use(0));
        x.share(0, 1, 1);
        Check.yes("promise 11: shared anew", x.use(0));
    }

    private static void wrongCalls() {
        VouchGate x = new VouchGate();
        x.share(1, 7, 2);
        Check.throwsOut("promise 10: key -1", () -> x.share(-1, 1, 1));
        Check.throwsOut("promise 10: key 4 goes first", () -> x.share(4, 0, 0));
        Check.throwsArgument("promise 10: no keepers", () -> x.share(1, 0, 1));
        Check.throwsArgument("promise 10: no keepers, threshold 0", () -> x.share(1, 0, 0));
        Check.throwsArgument("promise 10: keepers 4096", () -> x.share(1, 4096, 1));
        Check.throwsArgument("promise 10: keepers -1", () -> x.share(1, -1, 1));
        Check.throwsArgument("promise 10: threshold 0", () -> x.share(1, 1, 0));
        Check.throwsArgument("promise 10: threshold -1", () -> x.share(1, 1, -1));
        Check.throwsArgument("promise 10: more than they are", () -> x.share(1, 2049, 3));
        Check.throwsArgument("promise 10: more than all", () -> x.share(1, 4095, 13));
        Check.same("promise 10: throwing keeps the keepers", x.keyOf(1, 0), 7);
        Check.same("promise 10: and the threshold", x.keyOf(1, 1), 2);
        Check.throwsOut("promise 11: key -1", () -> x.use(-1) ? 1 : 0);
        Check.throwsOut("promise 11: key 4", () -> x.use(4) ? 1 : 0);
        Check.throwsOut("promise 17: key -1", () -> x.keyOf(-1, 0));
        Check.throwsOut("promise 17: key 4 goes first", () -> x.keyOf(4, 3));
        Check.throwsArgument("promise 17: what -1", () -> x.keyOf(0, -1));
        Check.throwsArgument("promise 17: what 3", () -> x.keyOf(0, 3));
    }
}
