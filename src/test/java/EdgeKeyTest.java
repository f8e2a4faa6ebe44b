/** The sentences of the document that name an edge of keys and of badges' numbers and signs: one test for each. */
public final class EdgeKeyTest {
    public static void main(String[] args) {
        keysAre0To3();
        noKeepersAndThreshold1AtFirst();
        keepersAre1To4095();
        thresholdsAre1ToHowManyTheyAre();
        keepersAndThresholdBothOut();
        theThresholdThatItHad();
        asManyAsTheThresholdOrMore();
        allKeepersWithTheHighestThreshold();
        inASessionTrustedAndNotTainted();
        howManyCouldUseItNow();
        keyOfTakes0To2();
        badges0To11AtFirst();
        oneMoreForEachBadge();
        theOneBeforeCanNeverBeLost();
        digitsTheOtherWayRound();
        lettersWrapAround();
        theNumberOfThePersonAhead();
        zeroBehindTheLastSign();
        signsOfNobody();
        Check.report();
    }

    /** "There are the keys 0 to 3". */
    private static void keysAre0To3() {
        VouchGate x = new VouchGate();
        Check.enter(x, 0, 0);
        for (int key = 0; key <= 3; key++) {
            Check.same("key " + key, x.share(key, 1 << key, 1), 1);
        }
        for (int key = 0; key <= 3; key++) {
            Check.same("each keeps its own keepers, " + key, x.keyOf(key, 0), 1 << key);
            Check.same("each opens for its own, " + key, x.use(key) ? 1 : 0, key == 0 ? 1 : 0);
        }
        for (int key : new int[] {Integer.MIN_VALUE, -1, 4, Integer.MAX_VALUE}) {
            Check.throwsOut("share " + key, () -> x.share(key, 1, 1));
            Check.throwsOut("the key goes ahead of keepers, " + key, () -> x.share(key, 0, 0));
            Check.throwsOut("use " + key, () -> x.use(key) ? 1 : 0);
            Check.throwsOut("keyOf " + key, () -> x.keyOf(key, 0));
            Check.throwsOut("the key goes ahead of what, " + key, () -> x.keyOf(key, 3));
        }
    }

    /** "None at first, and a threshold, 1 at first": a key without keepers opens for nobody. */
    private static void noKeepersAndThreshold1AtFirst() {
        VouchGate x = new VouchGate();
        Check.enter(x, 0, 0, 1, 2, 3);
        for (int key = 0; key <= 3; key++) {
            Check.same("keepers of " + key, x.keyOf(key, 0), 0);
            Check.same("threshold of " + key, x.keyOf(key, 1), 1);
            Check.same("who could use " + key, x.keyOf(key, 2), 0);
            Check.no("use of " + key, x.use(key));
            Check.same("the threshold it had, " + key, x.share(key, 4095, 5), 1);
        }
    }

    /** "Keepers: a set of persons, 1 to 4095". */
    private static void keepersAre1To4095() {
        VouchGate x = new VouchGate();
        for (int keepers : new int[] {1, 2, 2047, 2048, 4094, 4095}) {
            x.share(0, keepers, 1);
            Check.same("keepers " + keepers, x.keyOf(0, 0), keepers);
        }
        for (int keepers : new int[] {Integer.MIN_VALUE, -1, 0, 4096, 4097, Integer.MAX_VALUE}) {
            Check.throwsArgument("keepers " + keepers, () -> x.share(0, keepers, 1));
        }
        Check.same("the latest stay", x.keyOf(0, 0), 4095);
        for (int p = 0; p <= 11; p++) {
            VouchGate y = new VouchGate();
            Check.enter(y, 0, 0, 4, 5, 6, 7, 8, 9, 10, 11, 1, 2, 3);
            for (int guest = 4; guest <= 11; guest++) {
                y.vouch(0, guest, 1);
            }
            y.share(2, 1 << p, 1);
            Check.yes("the keeper " + p + " alone", y.use(2));
            y.lose(p, 0);
            Check.no("the keeper " + p + " is tainted", y.use(2));
        }
    }

    /** "Threshold: 1 to how many they are". */
    private static void thresholdsAre1ToHowManyTheyAre() {
        VouchGate x = new VouchGate();
        int[] sets = {1, 2048, 0b11, 0b100000000001, 0b10101, 0b111111111110, 4095};
        int[] many = {1, 1, 2, 2, 3, 11, 12};
        for (int n = 0; n < sets.length; n++) {
            int set = sets[n];
            int most = many[n];
            x.share(1, set, 1);
            Check.same("lowest of " + set, x.keyOf(1, 1), 1);
            x.share(1, set, most);
            Check.same("highest of " + set, x.keyOf(1, 1), most);
            for (int threshold : new int[] {Integer.MIN_VALUE, -1, 0, most + 1, Integer.MAX_VALUE}) {
                Check.throwsArgument(threshold + " of " + set, () -> x.share(1, set, threshold));
            }
            Check.same("refused ones leave it, " + set, x.keyOf(1, 1), most);
        }
    }

    /** Both out of range is told as one of them is; no keepers have no threshold that is in range. */
    private static void keepersAndThresholdBothOut() {
        VouchGate x = new VouchGate();
        Check.throwsArgument("no keepers, threshold 0", () -> x.share(0, 0, 0));
        Check.throwsArgument("too many keepers, threshold 13", () -> x.share(0, 8191, 13));
        Check.throwsArgument("keepers below 0, threshold 32", () -> x.share(0, -1, 32));
    }

    /** "Returns the threshold that it had". */
    private static void theThresholdThatItHad() {
        VouchGate x = new VouchGate();
        Check.same("at first", x.share(3, 4095, 12), 1);
        Check.same("of other keepers", x.share(3, 1, 1), 12);
        Check.same("the lowest", x.share(3, 7, 2), 1);
        Check.throwsArgument("a refused one", () -> x.share(3, 7, 4));
        Check.same("as before the refused one", x.share(3, 7, 3), 2);
    }

    /** "It opens if they are as many as the threshold, or more". */
    private static void asManyAsTheThresholdOrMore() {
        VouchGate x = new VouchGate();
        x.share(0, 0b1111, 2);
        Check.no("none of two", x.use(0));
        Check.enter(x, 0, 2);
        Check.no("one of two", x.use(0));
        Check.enter(x, 0, 0);
        Check.yes("two of two", x.use(0));
        Check.enter(x, 0, 3);
        Check.yes("three of two", x.use(0));
        x.share(0, 0b1111, 4);
        Check.no("three of four", x.use(0));
        x.share(0, 0b1110, 3);
        Check.no("one of them is no keeper any more", x.use(0));
    }

    /** Twelve keepers, and a threshold of twelve. */
    private static void allKeepersWithTheHighestThreshold() {
        VouchGate x = new VouchGate();
        x.share(3, 4095, 12);
        Check.enter(x, 0, 0, 1, 2, 3, 4, 5, 6, 7, 8, 9, 10, 11);
        for (int guest = 4; guest <= 11; guest++) {
            Check.no("not yet all, " + guest, x.use(3));
            x.vouch(guest - 1, guest, 1);
        }
        Check.yes("all", x.use(3));
        Check.same("how many", x.keyOf(3, 2), 12);
        x.lose(11, 0);
        Check.no("all but one", x.use(3));
        Check.same("how many but one", x.keyOf(3, 2), 11);
    }

    /** "Used by keepers who are in a session, trusted and not tainted": each of the three alone is not enough. */
    private static void inASessionTrustedAndNotTainted() {
        VouchGate x = new VouchGate();
        Check.enter(x, 0, 0);
        x.share(0, 16, 1);
        Check.no("none of the three", x.use(0));
        x.vouch(0, 4, 1);
        Check.no("trusted, not in a session", x.use(0));
        Check.enter(x, 0, 4);
        Check.yes("all three", x.use(0));
        x.end(4);
        Check.no("not trusted", x.use(0));
        x.vouch(0, 4, 1);
        x.lose(4, 0);
        Check.no("tainted by the own badge", x.use(0));
        x.issue(4);
        Check.yes("all three again", x.use(0));
        x.lose(0, 0);
        Check.no("tainted by a bad vouching", x.use(0));
    }

    /** "How many could use it now": the threshold does not bound them, and others than keepers do not count. */
    private static void howManyCouldUseItNow() {
        VouchGate x = new VouchGate();
        Check.enter(x, 0, 0, 1, 3);
        x.share(2, 0b1011, 1);
        Check.same("more than the threshold", x.keyOf(2, 2), 3);
        x.share(2, 0b0101, 2);
        Check.same("fewer than the threshold", x.keyOf(2, 2), 1);
        x.share(2, 0b0100, 1);
        Check.same("none", x.keyOf(2, 2), 0);
    }

    /** "What: 0 to 2". */
    private static void keyOfTakes0To2() {
        VouchGate x = new VouchGate();
        x.share(3, 0b110, 2);
        Check.same("what 0", x.keyOf(3, 0), 0b110);
        Check.same("what 1", x.keyOf(3, 1), 2);
        Check.same("what 2", x.keyOf(3, 2), 0);
        for (int what : new int[] {Integer.MIN_VALUE, -1, 3, Integer.MAX_VALUE}) {
            Check.throwsArgument("what " + what, () -> x.keyOf(3, what));
        }
    }

    /** "The persons have the badges 0 to 11 at first". */
    private static void badges0To11AtFirst() {
        VouchGate x = new VouchGate();
        for (int p = 0; p <= 11; p++) {
            Check.same("badge of " + p, x.of(p, 7), p);
        }
        Check.same("the first one issued", x.issue(0), 12);
    }

    /** "The badge's number is one more for each badge that is issued". */
    private static void oneMoreForEachBadge() {
        VouchGate x = new VouchGate();
        Check.same("the first", x.issue(11), 12);
        Check.same("of the same person", x.issue(11), 13);
        Check.same("of another one", x.issue(0), 14);
        x.lose(0, 0);
        Check.same("a loss takes none", x.issue(0), 15);
        for (int p : new int[] {Integer.MIN_VALUE, -1, 12, Integer.MAX_VALUE}) {
            Check.throwsOut("issue of " + p, () -> x.issue(p));
        }
        Check.same("refused ones take none", x.issue(5), 16);
        Check.same("others keep theirs", x.of(11, 7), 13);
        VouchGate y = new VouchGate();
        for (int call = 1; call <= 511; call++) {
            y.issue(call % 12);
        }
        Check.same("the last of 512 calls", y.issue(6), 12 + 511);
    }

    /** "The one before can never be told as lost any more". */
    private static void theOneBeforeCanNeverBeLost() {
        VouchGate x = new VouchGate();
        Check.enter(x, 0, 0);
        x.vouch(0, 4, 1);
        x.issue(0);
        Check.same("since 0", x.lose(0, 0), 1);
        Check.same("the one of the badge before is not tainted", x.of(4, 2), 0);
        Check.same("a badge lost before is not lost again", x.issue(0), 13);
        Check.same("only the present one is lost", x.lose(0, 0), 1);
    }

    private static void read(VouchGate x, int person, String due) {
        for (int place = 0; place < due.length(); place++) {
            Check.same("sign " + place + " of " + due, x.sign(person, place), due.charAt(place));
        }
        Check.same("behind " + due, x.sign(person, due.length()), 0);
    }

    private static void issueUpTo(VouchGate x, int person, int badge) {
        int got = x.of(person, 7);
        for (int n = 0; n < 512 && got != badge; n++) {
            got = x.issue(person);
        }
        Check.same("badge " + badge, got, badge);
    }

    /** "Its digits the other way round": of one, two and three digits, with zeros at either end. */
    private static void digitsTheOtherWayRound() {
        VouchGate x = new VouchGate();
        read(x, 0, "0-0A");
        read(x, 9, "9-9K");
        read(x, 10, "10-01O");
        read(x, 11, "11-11S");
        issueUpTo(x, 5, 12);
        read(x, 5, "5-21P");
        issueUpTo(x, 5, 20);
        read(x, 5, "5-02N");
        issueUpTo(x, 5, 99);
        read(x, 5, "5-99Q");
        issueUpTo(x, 5, 100);
        read(x, 5, "5-001T");
        issueUpTo(x, 5, 101);
        read(x, 5, "5-101W");
        issueUpTo(x, 5, 120);
        read(x, 5, "5-021B");
        issueUpTo(x, 5, 400);
        read(x, 5, "5-004J");
    }

    /** "The one so many places behind A as the remainder by 26": from Z to A, and both at once. */
    private static void lettersWrapAround() {
        VouchGate x = new VouchGate();
        read(x, 6, "6-6Y");
        read(x, 7, "7-7C");
        issueUpTo(x, 1, 17);
        read(x, 1, "1-71A");
        issueUpTo(x, 4, 24);
        read(x, 4, "4-42Y");
        issueUpTo(x, 4, 33);
        read(x, 4, "4-33Z");
        issueUpTo(x, 1, 34);
        read(x, 1, "1-43Z");
        issueUpTo(x, 2, 60);
        read(x, 2, "2-06A");
    }

    /** "Ahead of that the number of the person and -": of one digit, and of two, which stay as they are. */
    private static void theNumberOfThePersonAhead() {
        VouchGate x = new VouchGate();
        issueUpTo(x, 10, 12);
        read(x, 10, "10-21U");
        issueUpTo(x, 11, 13);
        read(x, 11, "11-31Y");
        issueUpTo(x, 0, 14);
        read(x, 0, "0-41Q");
    }

    /** "The char 0 behind the last one". */
    private static void zeroBehindTheLastSign() {
        VouchGate x = new VouchGate();
        Check.same("the last of a short one", x.sign(0, 3), 'A');
        Check.same("one behind a short one", x.sign(0, 4), 0);
        issueUpTo(x, 11, 100);
        Check.same("the last of a long one", x.sign(11, 6), 'Z');
        Check.same("one behind a long one", x.sign(11, 7), 0);
        Check.same("far behind", x.sign(11, 1000), 0);
        Check.same("the highest place", x.sign(11, Integer.MAX_VALUE), 0);
    }

    /** "IndexOutOfBoundsException if there is no such person, or place is below 0". */
    private static void signsOfNobody() {
        VouchGate x = new VouchGate();
        for (int p : new int[] {Integer.MIN_VALUE, -1, 12, Integer.MAX_VALUE}) {
            Check.throwsOut("sign of " + p, () -> x.sign(p, 0));
        }
        Check.throwsOut("place -1", () -> x.sign(0, -1));
        Check.throwsOut("lowest place", () -> x.sign(11, Integer.MIN_VALUE));
    }
}
