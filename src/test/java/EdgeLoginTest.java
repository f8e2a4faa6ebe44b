/** The sentences of the document that name an edge of minutes, words, codes, failures, rests and sessions: one test for each. */
public final class EdgeLoginTest {
    public static void main(String[] args) {
        anObjectIsUsedForAtMost512Calls();
        personsAre0To11();
        staffAre0To3();
        minutesAreCountedFrom0();
        firstWordsAreTheNumberTimes11();
        wordsAre0To999();
        codesAreRemaindersBy10();
        aLoginNeedsBoth();
        restIsLookedAtFirstThenTheWord();
        theThirdFailureRests();
        failuresAreCountedSinceTheLatestLogin();
        failuresAreCountedSinceTheLatestRest();
        aRestLasts10Minutes();
        noFailuresCountFromTheThirdOn();
        aSessionEnds30MinutesLater();
        aLoginWithinASessionBeginsItAnew();
        aLoginAtTheEndBeginsASession();
        wordNeedsASession();
        passTakes1To500();
        ofTakes0To7();
        endingGoesByMinutesThenPersons();
        endingOfRanks();
        Check.report();
    }

    /** "An object is used for at most 512 calls": the last of them is answered as the first one is. */
    private static void anObjectIsUsedForAtMost512Calls() {
        VouchGate x = new VouchGate();
        for (int call = 1; call <= 511; call++) {
            Check.same("call " + call, x.pass(500), 500 * call);
        }
        Check.same("call 512, login", x.login(11, 121, Check.code(11, 255500)), VouchGate.IN);
        VouchGate y = new VouchGate();
        for (int call = 1; call <= 511; call++) {
            y.login(6, 66, Check.code(6, 0));
        }
        Check.same("call 512, of", y.of(6, 6), 30);
    }

    /** "There are the persons 0 to 11". */
    private static void personsAre0To11() {
        for (int p = 0; p <= 11; p++) {
            Check.same("person " + p, new VouchGate().of(p, 7), p);
        }
        for (int p : new int[] {Integer.MIN_VALUE, -1, 12, Integer.MAX_VALUE}) {
            VouchGate x = new VouchGate();
            Check.throwsOut("no person " + p, () -> x.of(p, 7));
        }
    }

    /** "0 to 3 are staff, others are guests". */
    private static void staffAre0To3() {
        VouchGate x = new VouchGate();
        for (int p = 0; p <= 11; p++) {
            int person = p;
            Check.same("trusted from the first, " + p, x.of(p, 1), p <= 3 ? 1 : 0);
            Check.same("all rooms from the first, " + p, x.of(p, 3), p <= 3 ? 63 : 0);
            Check.same("end of " + p, Check.outcome(() -> x.end(person)),
                p <= 3 ? "throws.IndexOutOfBoundsException" : "throws.IllegalStateException");
        }
    }

    /** "Minutes are counted from 0". */
    private static void minutesAreCountedFrom0() {
        VouchGate x = new VouchGate();
        Check.same("the code at 0", x.login(0, 0, 0), VouchGate.IN);
        Check.same("the end of a session from 0", x.of(0, 6), 30);
        Check.throwsArgument("1 is later than the minute 0", () -> x.lose(0, 1));
        Check.same("the minute 0 is not", x.lose(0, 0), 1);
        Check.same("the next minute", x.pass(1), 1);
    }

    /** "Each person has a word, at first the own number times 11". */
    private static void firstWordsAreTheNumberTimes11() {
        for (int p = 0; p <= 11; p++) {
            VouchGate x = new VouchGate();
            Check.same("one above, " + p, x.login(p, 11 * p + 1, Check.code(p, 0)), VouchGate.WRONG_WORD);
            Check.same("the first word, " + p, x.login(p, 11 * p, Check.code(p, 0)), VouchGate.IN);
        }
        VouchGate x = new VouchGate();
        Check.same("one below, 11", x.login(11, 120, Check.code(11, 0)), VouchGate.WRONG_WORD);
    }

    /** "A word, a number, 0 to 999". */
    private static void wordsAre0To999() {
        VouchGate x = new VouchGate();
        Check.enter(x, 0, 5);
        for (int word : new int[] {0, 1, 998, 999}) {
            x.word(5, word);
            Check.same("word " + word, x.login(5, word, Check.code(5, 0)), VouchGate.IN);
        }
        for (int word : new int[] {Integer.MIN_VALUE, -1, 1000, Integer.MAX_VALUE}) {
            Check.throwsArgument("word to " + word, () -> Check.setWord(x, 5, word));
            Check.throwsArgument("login with " + word, () -> x.login(5, word, 0));
        }
        Check.same("the latest word stays", x.login(5, 999, Check.code(5, 0)), VouchGate.IN);
    }

    /** "The code is the remainder by 10 of 7 times the number and 3 times the minute, together". */
    private static void codesAreRemaindersBy10() {
        for (int p = 0; p <= 11; p++) {
            for (int minute = 0; minute <= 20; minute++) {
                for (int code = 0; code <= 9; code++) {
                    int due = code == (p * 7 + minute * 3) % 10 ? VouchGate.IN : VouchGate.WRONG_CODE;
                    Check.same("code " + code + " of " + p + " at " + minute, at(minute).login(p, 11 * p, code), due);
                }
            }
        }
        VouchGate x = new VouchGate();
        Check.throwsArgument("code -1", () -> x.login(0, 0, -1));
        Check.throwsArgument("code 10", () -> x.login(0, 0, 10));
        Check.throwsArgument("lowest code", () -> x.login(0, 0, Integer.MIN_VALUE));
        Check.throwsArgument("highest code", () -> x.login(0, 0, Integer.MAX_VALUE));
    }

    private static VouchGate at(int minute) {
        VouchGate x = new VouchGate();
        if (minute > 0) {
            x.pass(minute);
        }
        return x;
    }

    /** "A login needs both: a wrong word, or a right word with a wrong code, is a failure". */
    private static void aLoginNeedsBoth() {
        VouchGate x = new VouchGate();
        Check.same("a right code alone", x.login(1, 12, 7), VouchGate.WRONG_WORD);
        Check.same("is one failure", x.of(1, 5), 1);
        Check.same("a right word alone", x.login(1, 11, 8), VouchGate.WRONG_CODE);
        Check.same("is one more", x.of(1, 5), 2);
        Check.same("no session by either", x.of(1, 0), 0);
        VouchGate y = new VouchGate();
        Check.same("neither", y.login(1, 12, 8), VouchGate.WRONG_WORD);
        Check.same("is one failure, not two", y.of(1, 5), 1);
    }

    /** "The one that is looked at first being RESTS, then WRONG_WORD". */
    private static void restIsLookedAtFirstThenTheWord() {
        VouchGate x = resting(2, 0);
        Check.same("wrong word in a rest", x.login(2, 21, 4), VouchGate.RESTS);
        Check.same("wrong code in a rest", x.login(2, 22, 5), VouchGate.RESTS);
        Check.same("both wrong in a rest", x.login(2, 21, 5), VouchGate.RESTS);
        Check.same("both right in a rest", x.login(2, 22, 4), VouchGate.RESTS);
        Check.throwsArgument("arguments go ahead of the rest, word", () -> x.login(2, 1000, 4));
        Check.throwsArgument("arguments go ahead of the rest, code", () -> x.login(2, 22, 10));
    }

    /** A person who began to rest at the minute that it is. */
    private static VouchGate resting(int person, int minute) {
        VouchGate x = at(minute);
        fail(x, person, 3);
        return x;
    }

    private static void fail(VouchGate x, int person, int times) {
        for (int n = 0; n < times; n++) {
            Check.same("failure of " + person, x.login(person, 998, 0), VouchGate.WRONG_WORD);
        }
    }

    /** "With the third failure the person rests": not with the second, and the third one is told as what it is. */
    private static void theThirdFailureRests() {
        VouchGate x = new VouchGate();
        fail(x, 4, 2);
        Check.same("behind two failures", x.login(4, 44, Check.code(4, 0)), VouchGate.IN);
        VouchGate y = new VouchGate();
        fail(y, 4, 2);
        Check.same("the third one by its code", y.login(4, 44, 9), VouchGate.WRONG_CODE);
        Check.same("behind three failures", y.login(4, 44, 8), VouchGate.RESTS);
        Check.same("nobody else rests", y.login(5, 55, Check.code(5, 0)), VouchGate.IN);
        VouchGate z = new VouchGate();
        for (int n = 0; n < 3; n++) {
            Check.same("codes alone", z.login(4, 44, 9), VouchGate.WRONG_CODE);
        }
        Check.same("behind three wrong codes", z.login(4, 44, 8), VouchGate.RESTS);
    }

    /** "Since the latest login". */
    private static void failuresAreCountedSinceTheLatestLogin() {
        VouchGate x = new VouchGate();
        fail(x, 3, 2);
        Check.enter(x, 0, 3);
        Check.same("a login clears them", x.of(3, 5), 0);
        fail(x, 3, 2);
        Check.same("two since the login", x.of(3, 5), 2);
        x.pass(500);
        Check.same("time clears none", x.of(3, 5), 2);
        Check.enter(x, 500, 2);
        Check.same("nor another's login", x.of(3, 5), 2);
        fail(x, 3, 1);
        Check.same("the third since the login", x.login(3, 33, Check.code(3, 500)), VouchGate.RESTS);
    }

    /** "Since the latest rest". */
    private static void failuresAreCountedSinceTheLatestRest() {
        VouchGate x = resting(3, 0);
        x.pass(10);
        fail(x, 3, 2);
        Check.same("two since the rest", x.of(3, 5), 2);
        fail(x, 3, 1);
        Check.same("the third since the rest", x.login(3, 33, Check.code(3, 10)), VouchGate.RESTS);
        x.pass(9);
        Check.same("the second rest from its own minute, 9", x.login(3, 33, Check.code(3, 19)), VouchGate.RESTS);
        x.pass(1);
        Check.same("the second rest from its own minute, 10", x.login(3, 33, Check.code(3, 20)), VouchGate.IN);
    }

    /** "Rests for 10 minutes: logins are refused until that many minutes later". */
    private static void aRestLasts10Minutes() {
        for (int start : new int[] {0, 1, 500}) {
            for (int later = 0; later <= 11; later++) {
                VouchGate x = resting(7, start);
                if (later > 0) {
                    x.pass(later);
                }
                Check.same("rest from " + start + ", " + later + " later",
                    x.login(7, 77, Check.code(7, start + later)), later < 10 ? VouchGate.RESTS : VouchGate.IN);
            }
        }
        VouchGate x = resting(7, 0);
        x.pass(10);
        Check.same("a wrong word when it has ended", x.login(7, 78, 0), VouchGate.WRONG_WORD);
        Check.same("counts again", x.of(7, 5), 1);
    }

    /** "No failures count any more from the third one on". */
    private static void noFailuresCountFromTheThirdOn() {
        VouchGate x = new VouchGate();
        fail(x, 8, 1);
        Check.same("the first counts", x.of(8, 5), 1);
        fail(x, 8, 1);
        Check.same("the second counts", x.of(8, 5), 2);
        fail(x, 8, 1);
        Check.same("with the third none counts", x.of(8, 5), 0);
        for (int minute = 0; minute < 10; minute++) {
            for (int n = 0; n < 4; n++) {
                Check.same("refused at " + minute, x.login(8, 1, 0), VouchGate.RESTS);
            }
            Check.same("refused ones do not count", x.of(8, 5), 0);
            x.pass(1);
        }
        Check.same("nor do they lengthen the rest", x.login(8, 88, Check.code(8, 10)), VouchGate.IN);
    }

    /** "A session, which ends 30 minutes later". */
    private static void aSessionEnds30MinutesLater() {
        for (int later : new int[] {1, 28, 29, 30, 31, 500}) {
            VouchGate x = at(3);
            Check.enter(x, 3, 2);
            x.share(0, 4, 1);
            x.pass(later);
            boolean in = later < 30;
            Check.same("in a session, " + later, x.of(2, 0), in ? 1 : 0);
            Check.same("its end, " + later, x.of(2, 6), in ? 33 : -1);
            Check.same("next to its end, " + later, x.ending(0), in ? 2 : -1);
            Check.same("a key, " + later, x.use(0) ? 1 : 0, in ? 1 : 0);
            Check.same("a word, " + later, Check.outcome(() -> Check.setWord(x, 2, 5)),
                in ? "0" : "throws.IllegalStateException");
            Check.same("a vouching, " + later, Check.outcome(() -> x.vouch(2, 4, 1)),
                in ? "1" : "throws.IllegalStateException");
        }
    }

    /** "A login within a session begins it anew": in its first minute, in its last one, and by no failure. */
    private static void aLoginWithinASessionBeginsItAnew() {
        VouchGate x = new VouchGate();
        Check.enter(x, 0, 9);
        Check.enter(x, 0, 9);
        Check.same("in the same minute", x.of(9, 6), 30);
        x.pass(29);
        fail(x, 9, 3);
        Check.same("failures do not, nor a rest", x.of(9, 6), 30);
        Check.same("a refused one does not", x.login(9, 99, Check.code(9, 29)), VouchGate.RESTS);
        Check.same("the session stays in a rest", x.of(9, 6), 30);
        VouchGate y = new VouchGate();
        Check.enter(y, 0, 9);
        y.pass(29);
        Check.enter(y, 29, 9);
        Check.same("in the last minute", y.of(9, 6), 59);
        y.pass(29);
        Check.same("to the new end", y.of(9, 0), 1);
        y.pass(1);
        Check.same("at the new end", y.of(9, 0), 0);
    }

    /** "A login begins a session": also when the one before ends in this very minute. */
    private static void aLoginAtTheEndBeginsASession() {
        VouchGate x = new VouchGate();
        Check.enter(x, 0, 9);
        x.pass(30);
        Check.same("ended", x.of(9, 6), -1);
        Check.enter(x, 30, 9);
        Check.same("begun", x.of(9, 6), 60);
    }

    /** "IllegalStateException if the person is not in a session". */
    private static void wordNeedsASession() {
        VouchGate x = new VouchGate();
        Check.enter(x, 0, 0, 1);
        Check.throwsState("nobody's session but the own", () -> Check.setWord(x, 2, 5));
        x.lose(0, 0);
        Check.same("a tainted one in a session", Check.outcome(() -> Check.setWord(x, 0, 5)), "0");
        fail(x, 1, 3);
        Check.same("a resting one in a session", Check.outcome(() -> Check.setWord(x, 1, 5)), "0");
        Check.enter(x, 0, 4);
        Check.same("an untrusted one in a session", Check.outcome(() -> Check.setWord(x, 4, 5)), "0");
        Check.throwsState("a resting one without", () -> Check.setWord(resting(3, 0), 3, 5));
    }

    /** "Minutes: 1 to 500". */
    private static void passTakes1To500() {
        Check.same("1", new VouchGate().pass(1), 1);
        Check.same("2", new VouchGate().pass(2), 2);
        Check.same("499", new VouchGate().pass(499), 499);
        Check.same("500", new VouchGate().pass(500), 500);
        VouchGate x = at(8);
        for (int minutes : new int[] {Integer.MIN_VALUE, -1, 0, 501, Integer.MAX_VALUE}) {
            Check.throwsArgument("pass " + minutes, () -> x.pass(minutes));
        }
        Check.same("refused ones take no time", x.pass(1), 9);
    }

    /** "What: 0 to 7", with "-1 if nobody does" and "-1 without one". */
    private static void ofTakes0To7() {
        VouchGate x = at(2);
        for (int what : new int[] {Integer.MIN_VALUE, -1, 8, Integer.MAX_VALUE}) {
            Check.throwsArgument("what " + what, () -> x.of(11, what));
            Check.throwsOut("the person goes first, what " + what, () -> x.of(12, what));
        }
        int[] atFirst = {0, 0, 0, 0, -1, 0, -1, 11};
        for (int what = 0; what <= 7; what++) {
            Check.same("of nobody's guest, what " + what, x.of(11, what), atFirst[what]);
        }
        Check.enter(x, 2, 0, 11);
        x.vouch(0, 11, 33);
        x.login(11, 0, 0);
        x.lose(11, 2);
        int[] then = {1, 1, 1, 33, 0, 1, 32, 11};
        for (int what = 0; what <= 7; what++) {
            Check.same("of a guest, what " + what, x.of(11, what), then[what]);
        }
    }

    /** "Who of those in a session comes next to its end; of like minutes lower persons first". */
    private static void endingGoesByMinutesThenPersons() {
        VouchGate x = new VouchGate();
        Check.enter(x, 0, 11, 0);
        x.pass(1);
        Check.enter(x, 1, 5, 4, 10);
        Check.same("like minutes, the lower", x.ending(0), 0);
        Check.same("like minutes, the higher", x.ending(1), 11);
        Check.same("one minute later, the lowest", x.ending(2), 4);
        Check.same("one minute later, the middle", x.ending(3), 5);
        Check.same("one minute later, the highest", x.ending(4), 10);
        x.pass(28);
        Check.same("the last minute of the first ones", x.ending(0), 0);
        x.pass(1);
        Check.same("ended ones have no rank", x.ending(0), 4);
        Check.same("as many as are left", x.ending(2), 10);
        Check.same("not so many any more", x.ending(3), -1);
    }

    /** "Rank: 0 for the first one", "-1 if there are not so many", "IndexOutOfBoundsException if rank is below 0". */
    private static void endingOfRanks() {
        VouchGate x = new VouchGate();
        Check.same("nobody in a session", x.ending(0), -1);
        Check.enter(x, 0, 0, 1, 2, 3, 4, 5, 6, 7, 8, 9, 10, 11);
        Check.same("the first of all", x.ending(0), 0);
        Check.same("the last of all", x.ending(11), 11);
        Check.same("one behind all", x.ending(12), -1);
        Check.same("the highest rank", x.ending(Integer.MAX_VALUE), -1);
        Check.throwsOut("rank -1", () -> x.ending(-1));
        Check.throwsOut("lowest rank", () -> x.ending(Integer.MIN_VALUE));
    }
}
