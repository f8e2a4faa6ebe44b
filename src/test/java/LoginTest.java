/** Promises 1 to 4: a new object, word, login, pass. */
public final class LoginTest {
    public static void main(String[] args) {
        newObject();
        wordsAndCodes();
        failuresAndRests();
        sessions();
        settingWords();
        passing();
        Check.report();
    }

    private static void newObject() {
        VouchGate x = new VouchGate();
        for (int p = 0; p < 12; p++) {
            Check.same("promise 1: session of " + p, x.of(p, 0), 0);
            Check.same("promise 1: trusted " + p, x.of(p, 1), p < 4 ? 1 : 0);
            Check.same("promise 1: tainted " + p, x.of(p, 2), 0);
            Check.same("promise 1: rooms of " + p, x.of(p, 3), p < 4 ? 63 : 0);
            Check.same("promise 1: host of " + p, x.of(p, 4), -1);
            Check.same("promise 1: failures of " + p, x.of(p, 5), 0);
            Check.same("promise 1: session end of " + p, x.of(p, 6), -1);
            Check.same("promise 1: badge of " + p, x.of(p, 7), p);
        }
        Check.same("promise 1: the first minute is behind 0", x.pass(1), 1);
    }

    private static void wordsAndCodes() {
        VouchGate x = new VouchGate();
        x.pass(13);
        for (int p = 0; p < 12; p++) {
            int due = Check.code(p, 13);
            Check.same("promise 3: word ahead of code " + p, x.login(p, 11 * p + 1, (due + 1) % 10), VouchGate.WRONG_WORD);
            Check.same("promise 3: wrong code " + p, x.login(p, 11 * p, (due + 1) % 10), VouchGate.WRONG_CODE);
            Check.same("promise 3: in " + p, x.login(p, 11 * p, due), VouchGate.IN);
        }
        Check.same("promise 3: lowest word", x.login(1, 0, 0), 1);
        Check.same("promise 3: top word and code", x.login(1, 999, 9), 1);
        Check.throwsOut("promise 3: person -1", () -> x.login(-1, 0, 0));
        Check.throwsOut("promise 3: person 12", () -> x.login(12, 0, 0));
        Check.throwsOut("promise 3: person goes first", () -> x.login(12, 1000, 10));
        Check.throwsOut("promise 3: lowest person", () -> x.login(Integer.MIN_VALUE, 0, 0));
        Check.throwsArgument("promise 3: word -1", () -> x.login(0, -1, 0));
        Check.throwsArgument("promise 3: word 1000", () -> x.login(0, 1000, 0));
        Check.throwsArgument("promise 3: code -1", () -> x.login(0, 0, -1));
        Check.throwsArgument("promise 3: code 10", () -> x.login(0, 0, 10));
        Check.same("promise 3: throwing counts no failure", x.of(0, 5), 0);
    }

    private static void failuresAndRests() {
        VouchGate x = new VouchGate();
        x.login(2, 1, 0);
        Check.same("promise 3: one failure", x.of(2, 5), 1);
        x.login(2, 22, Check.code(2, 0) + 1);
        Check.same("promise 3: two failures", x.of(2, 5), 2);
        x.pass(100);
        Check.same("promise 3: failures stay in time", x.of(2, 5), 2);
        Check.same("promise 3: the third is told as a failure", x.login(2, 1, 0), VouchGate.WRONG_WORD);
        Check.same("promise 3: none counts from the third on", x.of(2, 5), 0);
        Check.same("promise 3: rests with right word and code", x.login(2, 22, Check.code(2, 100)), VouchGate.RESTS);
        Check.same("promise 3: rests with wrong word", x.login(2, 1, 0), VouchGate.RESTS);
        Check.same("promise 3: refused ones do not count", x.of(2, 5), 0);
        Check.throwsArgument("promise 3: range ahead of rest", () -> x.login(2, 1000, 0));
        Check.same("promise 3: others do not rest", x.login(3, 33, Check.code(3, 100)), VouchGate.IN);
        x.pass(9);
        Check.same("promise 3: rests in the ninth minute", x.login(2, 22, Check.code(2, 109)), VouchGate.RESTS);
        x.pass(1);
        Check.same("promise 3: failure behind the rest", x.login(2, 23, 0), VouchGate.WRONG_WORD);
        Check.same("promise 3: second behind the rest", x.login(2, 23, 0), VouchGate.WRONG_WORD);
        Check.same("promise 3: counted anew behind the rest", x.of(2, 5), 2);
        Check.same("promise 3: no rest before the third", x.login(2, 22, Check.code(2, 110)), VouchGate.IN);
        Check.same("promise 3: login clears failures", x.of(2, 5), 0);
        x.login(2, 23, 0);
        x.login(2, 23, 0);
        x.login(2, 23, 0);
        Check.same("promise 3: a rest does not end a session", x.of(2, 0), 1);
        Check.same("promise 3: nor move its end", x.of(2, 6), 140);
    }

    private static void sessions() {
        VouchGate x = new VouchGate();
        x.login(5, 55, Check.code(5, 0));
        Check.same("promise 3: ends 30 later", x.of(5, 6), 30);
        x.pass(20);
        x.login(5, 55, Check.code(5, 20));
        Check.same("promise 3: begun anew", x.of(5, 6), 50);
        x.login(5, 54, 0);
        Check.same("promise 3: a failure leaves the session", x.of(5, 6), 50);
        x.pass(29);
        Check.same("promise 3: still in", x.of(5, 0), 1);
        x.pass(1);
        Check.same("promise 3: ended", x.of(5, 0), 0);
        Check.same("promise 3: no end without a session", x.of(5, 6), -1);
    }

    private static void settingWords() {
        VouchGate x = new VouchGate();
        Check.throwsState("promise 2: not in a session", () -> Check.setWord(x, 1, 5));
        x.login(1, 11, Check.code(1, 0));
        x.word(1, 999);
        Check.same("promise 2: old word", x.login(1, 11, Check.code(1, 0)), VouchGate.WRONG_WORD);
        Check.same("promise 2: new word", x.login(1, 999, Check.code(1, 0)), VouchGate.IN);
        x.word(1, 0);
        Check.same("promise 2: lowest word", x.login(1, 0, Check.code(1, 0)), VouchGate.IN);
        Check.throwsOut("promise 2: person -1", () -> Check.setWord(x, -1, 5));
        Check.throwsOut("promise 2: person 12 goes first", () -> Check.setWord(x, 12, -1));
        Check.throwsArgument("promise 2: word -1", () -> Check.setWord(x, 1, -1));
        Check.throwsArgument("promise 2: word 1000", () -> Check.setWord(x, 1, 1000));
        Check.throwsArgument("promise 2: word goes ahead of session", () -> Check.setWord(x, 2, 1000));
        Check.same("promise 2: throwing changes nothing", x.login(1, 0, Check.code(1, 0)), VouchGate.IN);
        x.lose(1, 0);
        x.word(1, 7);
        x.pass(29);
        x.word(1, 8);
        x.pass(1);
        Check.throwsState("promise 2: session ended", () -> Check.setWord(x, 1, 9));
        Check.same("promise 2: word stays behind the session", x.login(1, 8, Check.code(1, 30)), VouchGate.IN);
    }

    private static void passing() {
        VouchGate x = new VouchGate();
        Check.throwsArgument("promise 4: 0", () -> x.pass(0));
        Check.throwsArgument("promise 4: 501", () -> x.pass(501));
        Check.throwsArgument("promise 4: lowest", () -> x.pass(Integer.MIN_VALUE));
        Check.throwsArgument("promise 4: highest", () -> x.pass(Integer.MAX_VALUE));
        Check.same("promise 4: one", x.pass(1), 1);
        Check.same("promise 4: most", x.pass(500), 501);
        Check.same("promise 4: more", x.pass(7), 508);
        for (int call = 0; call < 500; call++) {
            x.pass(500);
        }
        Check.same("promise 4: many", x.pass(3), 250511);
        Check.same("promise 4: codes go with the minute", x.login(7, 77, (49 + 3 * 250511) % 10), VouchGate.IN);
    }
}
