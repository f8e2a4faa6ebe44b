/** The sentences of the document that name an edge of vouching, trust, rooms, losses and taint: one test for each. */
public final class EdgeVouchTest {
    public static void main(String[] args) {
        aHostIsInASession();
        aHostIsNotTainted();
        aHostIsTrusted();
        aHostIsAPerson();
        aGuestIs4To11();
        aGuestIsAnotherOne();
        roomsAre1To63();
        atMost100AreInTheLog();
        theLatestStandsInPlaceOfTheOneBefore();
        endNeedsOneWhoVouches();
        ringsAreTrustedByNobody();
        theLongestChain();
        staffHaveAllRoomsOthersNone();
        roomsThatTheHostHasToo();
        aRoomOpensForWhoHasItAndIsNotTainted();
        roomsAre0To5();
        sinceIs0ToThePresentMinute();
        taintedUntilABadgeIsIssuedAnew();
        byThatAloneNobodyElseIs();
        atThatMinuteOrLater();
        withThisBadge();
        badForGood();
        whoseHostIsSoAndSoOn();
        alsoAroundARing();
        asLongAsThatIsSo();
        vouchedForAnewByAnUntaintedOne();
        howManyAreTainted();
        anewFromTheFirstEventOn();
        anewFromAsManyEventsAsThereCanBe();
        Check.report();
    }

    /** Everybody in a session at the minute 0. */
    private static VouchGate open() {
        VouchGate x = new VouchGate();
        Check.enter(x, 0, 0, 1, 2, 3, 4, 5, 6, 7, 8, 9, 10, 11);
        return x;
    }

    /** Everybody in a session, and 3 vouches for 4, 4 for 5, and so on up to 11. */
    private static VouchGate chained() {
        VouchGate x = open();
        for (int guest = 4; guest <= 11; guest++) {
            x.vouch(guest - 1, guest, 63);
        }
        return x;
    }

    /** As chained, but 11 vouches for 4 at last. */
    private static VouchGate ring() {
        VouchGate x = chained();
        x.vouch(11, 4, 63);
        return x;
    }

    /** Looks at all persons, by the state and anew from the log. */
    private static void tainted(String what, VouchGate x, int... persons) {
        int set = 0;
        for (int p : persons) {
            set |= 1 << p;
        }
        for (int p = 0; p <= 11; p++) {
            Check.same(what + ", tainted " + p, x.of(p, 2), set >> p & 1);
            Check.same(what + ", tainted anew " + p, x.taintedAnew(p) ? 1 : 0, set >> p & 1);
        }
    }

    /** "A person who is in a session may vouch". */
    private static void aHostIsInASession() {
        VouchGate x = new VouchGate();
        Check.throwsState("staff without a session", () -> x.vouch(0, 4, 1));
        Check.enter(x, 0, 0);
        Check.same("staff with one", x.vouch(0, 4, 1), 1);
        Check.throwsState("a guest without a session", () -> x.vouch(4, 5, 1));
        Check.enter(x, 0, 4);
        Check.same("a guest with one", x.vouch(4, 5, 1), 2);
        x.pass(30);
        Check.throwsState("a guest whose session has ended", () -> x.vouch(4, 5, 1));
        Check.enter(x, 30, 4);
        Check.same("the host of a guest needs none", x.vouch(4, 5, 1), 3);
    }

    /** "Not tainted": neither by a badge nor by a vouching. */
    private static void aHostIsNotTainted() {
        VouchGate x = open();
        x.vouch(0, 4, 1);
        x.vouch(4, 5, 1);
        x.lose(0, 0);
        Check.throwsState("by the own badge", () -> x.vouch(0, 6, 1));
        Check.throwsState("by a bad vouching", () -> x.vouch(4, 6, 1));
        Check.throwsState("by the host", () -> x.vouch(5, 6, 1));
        Check.same("another one is not", x.vouch(1, 6, 1), 3);
        x.issue(0);
        Check.same("not any more", x.vouch(0, 6, 1), 4);
        Check.throwsState("by a bad vouching still", () -> x.vouch(4, 6, 1));
    }

    /** "And trusted". */
    private static void aHostIsTrusted() {
        VouchGate x = open();
        Check.throwsState("nobody vouches", () -> x.vouch(4, 5, 1));
        x.vouch(0, 4, 1);
        x.vouch(4, 5, 1);
        Check.same("by a trusted guest", x.vouch(5, 6, 1), 3);
        x.end(4);
        Check.throwsState("nobody vouches any more", () -> x.vouch(4, 7, 1));
        Check.throwsState("by one who is not trusted", () -> x.vouch(5, 7, 1));
        VouchGate y = ring();
        Check.throwsState("in a ring", () -> y.vouch(6, 7, 1));
    }

    /** "Host: 0 to 11". */
    private static void aHostIsAPerson() {
        VouchGate x = chained();
        Check.same("host 0", x.vouch(0, 4, 1), 9);
        Check.same("host 11", x.vouch(11, 5, 1), 10);
        for (int host : new int[] {Integer.MIN_VALUE, -1, 12, Integer.MAX_VALUE}) {
            Check.throwsOut("host " + host, () -> x.vouch(host, 4, 1));
            Check.throwsOut("host goes ahead of rooms, " + host, () -> x.vouch(host, 4, 0));
        }
    }

    /** "Guest: 4 to 11", for vouch and for end. */
    private static void aGuestIs4To11() {
        VouchGate x = open();
        Check.same("guest 4", x.vouch(0, 4, 1), 1);
        Check.same("guest 11", x.vouch(0, 11, 1), 2);
        for (int guest : new int[] {Integer.MIN_VALUE, -1, 0, 3, 12, Integer.MAX_VALUE}) {
            Check.throwsOut("guest " + guest, () -> x.vouch(1, guest, 1));
            Check.throwsOut("guest goes ahead of rooms, " + guest, () -> x.vouch(1, guest, 64));
            Check.throwsOut("end of guest " + guest, () -> x.end(guest));
        }
        Check.throwsOut("a guest goes ahead of a session", () -> new VouchGate().vouch(1, 3, 1));
        Check.same("end of guest 4", x.end(4), 0);
        Check.same("end of guest 11", x.end(11), 0);
    }

    /** "IllegalArgumentException if both are the same". */
    private static void aGuestIsAnotherOne() {
        VouchGate x = chained();
        for (int p = 4; p <= 11; p++) {
            int person = p;
            Check.throwsArgument("both are " + p, () -> x.vouch(person, person, 1));
        }
        for (int p = 0; p <= 3; p++) {
            int person = p;
            Check.throwsOut("staff are no guests, " + p, () -> x.vouch(person, person, 1));
        }
        Check.throwsArgument("ahead of what is not possible now", () -> new VouchGate().vouch(4, 4, 1));
    }

    /** "Rooms: a set of rooms, 1 to 63". */
    private static void roomsAre1To63() {
        VouchGate x = open();
        for (int rooms = 1; rooms <= 63; rooms++) {
            Check.same("rooms " + rooms, x.vouch(0, 4, rooms), rooms);
            Check.same("the set " + rooms, x.of(4, 3), rooms);
        }
        for (int rooms : new int[] {Integer.MIN_VALUE, -1, 0, 64, 65, Integer.MAX_VALUE}) {
            Check.throwsArgument("rooms " + rooms, () -> x.vouch(0, 4, rooms));
            Check.throwsArgument("ahead of what is not possible now, " + rooms, () -> new VouchGate().vouch(0, 4, rooms));
        }
    }

    /** "Returns how many vouchings are in the log"; "IllegalStateException if 100 are in the log". */
    private static void atMost100AreInTheLog() {
        VouchGate x = open();
        for (int n = 1; n <= 98; n++) {
            Check.same("vouching " + n, x.vouch(n % 4, 4 + n % 8, 1), n);
        }
        Check.same("an ended one stays in the log", x.end(4) >= 0 ? x.vouch(0, 4, 1) : 0, 99);
        x.lose(1, 0);
        x.issue(1);
        Check.same("the last one, 100", x.vouch(1, 4, 1), 100);
        Check.throwsState("one more", () -> x.vouch(1, 4, 1));
        x.end(4);
        Check.throwsState("one more behind an ending", () -> x.vouch(1, 4, 1));
        Check.throwsArgument("arguments go first", () -> x.vouch(1, 4, 64));
        Check.same("an ending is possible still", x.end(5), 1);
        Check.same("and a loss", x.lose(1, 0), 2);
        Check.same("and an issue", x.issue(1), 13);
    }

    /** "In place of who vouched for that guest before": host, rooms, minute and badge are the later one's. */
    private static void theLatestStandsInPlaceOfTheOneBefore() {
        VouchGate x = open();
        x.vouch(0, 4, 7);
        x.vouch(1, 4, 56);
        Check.same("the host", x.of(4, 4), 1);
        Check.same("the rooms", x.of(4, 3), 56);
        x.lose(0, 0);
        tainted("the one before is nothing any more", x, 0);
        x.lose(1, 0);
        tainted("the later one is looked at", x, 0, 1, 4);
        VouchGate y = open();
        y.vouch(0, 4, 7);
        y.pass(1);
        y.vouch(0, 4, 7);
        y.lose(0, 1);
        tainted("the later minute", y, 0, 4);
        VouchGate z = open();
        z.vouch(0, 4, 7);
        z.issue(0);
        z.vouch(0, 4, 7);
        z.lose(0, 0);
        tainted("the later badge", z, 0, 4);
    }

    /** "Returns who vouched for that one"; "IllegalStateException if nobody does". */
    private static void endNeedsOneWhoVouches() {
        VouchGate x = open();
        for (int p = 4; p <= 11; p++) {
            int guest = p;
            Check.throwsState("nobody vouches for " + p, () -> x.end(guest));
        }
        x.vouch(0, 4, 1);
        x.vouch(2, 4, 1);
        Check.same("the latest one did", x.end(4), 2);
        Check.throwsState("not the one before again", () -> x.end(4));
        Check.same("nobody", x.of(4, 4), -1);
        VouchGate y = ring();
        Check.same("in a ring", y.end(4), 11);
        Check.same("of an untrusted one", y.end(9), 8);
        Check.same("of the last one", y.end(11), 10);
    }

    /** "Rings are trusted by nobody": of two, of all guests, and who hangs on one. */
    private static void ringsAreTrustedByNobody() {
        VouchGate x = open();
        x.vouch(0, 4, 1);
        x.vouch(4, 5, 1);
        x.vouch(5, 6, 1);
        Check.same("not a ring yet", x.chain(6), 3);
        x.vouch(5, 4, 1);
        untrusted("a ring of two", x, 4, 5, 6);
        VouchGate y = ring();
        untrusted("a ring of all guests", y, 4, 5, 6, 7, 8, 9, 10, 11);
        Check.same("the hosts stay", y.of(4, 4), 11);
        y.vouch(1, 8, 1);
        Check.same("opened, at its head", y.chain(8), 1);
        Check.same("opened, at its end", y.chain(7), 8);
    }

    private static void untrusted(String what, VouchGate x, int... persons) {
        for (int p : persons) {
            Check.same(what + ", trusted " + p, x.of(p, 1), 0);
            Check.same(what + ", chain " + p, x.chain(p), -1);
            Check.same(what + ", rooms " + p, x.of(p, 3), 0);
        }
    }

    /** "0 of staff, otherwise how many vouchings; -1 if not trusted". */
    private static void theLongestChain() {
        VouchGate x = chained();
        for (int p = 0; p <= 11; p++) {
            Check.same("chain of " + p, x.chain(p), p <= 3 ? 0 : p - 3);
            Check.same("trusted " + p, x.of(p, 1), 1);
        }
        x.end(4);
        untrusted("the head of it ended", x, 4, 5, 6, 7, 8, 9, 10, 11);
        untrusted("nobody's guest", new VouchGate(), 4, 11);
        for (int p : new int[] {Integer.MIN_VALUE, -1, 12, Integer.MAX_VALUE}) {
            Check.throwsOut("chain of " + p, () -> x.chain(p));
        }
    }

    /** "Staff have all rooms; others have none". */
    private static void staffHaveAllRoomsOthersNone() {
        VouchGate x = open();
        for (int room = 0; room <= 5; room++) {
            Check.yes("staff 0, room " + room, x.door(0, room));
            Check.yes("staff 3, room " + room, x.door(3, room));
            Check.no("guest 4, room " + room, x.door(4, room));
            Check.no("guest 11, room " + room, x.door(11, room));
        }
        x.vouch(0, 4, 63);
        x.end(4);
        Check.same("none behind an ending", x.of(4, 3), 0);
        Check.same("none is taken from who vouched", x.of(0, 3), 63);
    }

    /** "Those for which that one is vouched for, and that the one who vouches has, too". */
    private static void roomsThatTheHostHasToo() {
        VouchGate x = open();
        x.vouch(0, 4, 0b000111);
        x.vouch(4, 5, 0b111110);
        x.vouch(5, 6, 0b111000);
        Check.same("both have", x.of(5, 3), 0b000110);
        Check.same("none, though trusted", x.of(6, 3), 0);
        Check.same("trusted, though without rooms", x.of(6, 1), 1);
        x.vouch(6, 7, 63);
        Check.same("one without rooms gives none", x.of(7, 3), 0);
        x.vouch(0, 4, 63);
        Check.same("as the host has them now", x.of(6, 3), 0b111000);
        Check.same("and so on", x.of(7, 3), 0b111000);
        VouchGate y = chained();
        Check.same("all, down the longest chain", y.of(11, 3), 63);
        y.vouch(3, 4, 0b100001);
        Check.same("as the first of the longest chain has them", y.of(11, 3), 0b100001);
        y.vouch(10, 11, 0b100010);
        Check.same("and as its last one is vouched for", y.of(11, 3), 0b100000);
    }

    /** "A room opens for a person who has it, and is not tainted". */
    private static void aRoomOpensForWhoHasItAndIsNotTainted() {
        VouchGate x = open();
        x.vouch(0, 4, 0b000010);
        Check.yes("has it, not tainted", x.door(4, 1));
        Check.no("has it not, not tainted", x.door(4, 0));
        x.lose(4, 0);
        Check.no("has it, tainted", x.door(4, 1));
        Check.no("has it not, tainted", x.door(4, 0));
        Check.same("taint takes no room", x.of(4, 3), 0b000010);
        x.issue(4);
        Check.yes("not tainted any more", x.door(4, 1));
        x.pass(30);
        Check.yes("without a session", x.door(4, 1));
    }

    /** "Room: 0 to 5". */
    private static void roomsAre0To5() {
        VouchGate x = open();
        x.vouch(0, 11, 0b100000);
        Check.yes("the last room", x.door(11, 5));
        Check.no("the first room", x.door(11, 0));
        for (int room : new int[] {Integer.MIN_VALUE, -1, 6, 32, 37, Integer.MAX_VALUE}) {
            Check.throwsOut("room " + room, () -> x.door(0, room) ? 1 : 0);
        }
        for (int p : new int[] {Integer.MIN_VALUE, -1, 12, Integer.MAX_VALUE}) {
            Check.throwsOut("door of " + p, () -> x.door(p, 0) ? 1 : 0);
        }
    }

    /** "Since a minute, not later than now": "0 to the present minute". */
    private static void sinceIs0ToThePresentMinute() {
        VouchGate x = new VouchGate();
        Check.throwsArgument("1 at the minute 0", () -> x.lose(5, 1));
        Check.same("0 at the minute 0", x.lose(5, 0), 1);
        x.pass(500);
        Check.same("0 later", x.lose(6, 0), 2);
        Check.same("the present minute", x.lose(7, 500), 3);
        Check.same("the minute ahead of it", x.lose(8, 499), 4);
        for (int since : new int[] {Integer.MIN_VALUE, -1, 501, Integer.MAX_VALUE}) {
            Check.throwsArgument("since " + since, () -> x.lose(9, since));
            Check.throwsOut("the person goes first, " + since, () -> x.lose(12, since));
        }
        tainted("refused ones taint nobody", x, 5, 6, 7, 8);
    }

    /** "From then on the person is tainted, until a badge is issued anew". */
    private static void taintedUntilABadgeIsIssuedAnew() {
        VouchGate x = new VouchGate();
        x.pass(9);
        x.lose(4, 9);
        tainted("from then on", x, 4);
        x.pass(500);
        tainted("time frees nobody", x, 4);
        x.issue(5);
        tainted("nor does another's badge", x, 4);
        x.lose(4, 100);
        tainted("told twice", x, 4);
        x.issue(4);
        tainted("one badge frees of both", x);
        x.lose(4, 0);
        tainted("the badge anew is lost, too", x, 4);
    }

    /** "By that alone nobody else is": those whom the loser vouched for are not, if no vouching is bad. */
    private static void byThatAloneNobodyElseIs() {
        VouchGate x = chained();
        x.pass(1);
        Check.same("all vouchings were ahead of since", x.lose(3, 1), 1);
        tainted("the loser alone", x, 3);
        Check.same("a guest in the middle", x.lose(7, 1), 2);
        tainted("the losers alone", x, 3, 7);
        VouchGate y = ring();
        y.pass(1);
        y.lose(7, 1);
        tainted("the loser alone in a ring", y, 7);
    }

    /** "Each vouching at that minute or later is a bad one". */
    private static void atThatMinuteOrLater() {
        VouchGate x = open();
        x.pass(4);
        x.vouch(0, 4, 1);
        x.pass(1);
        x.vouch(0, 5, 1);
        x.pass(1);
        x.vouch(0, 6, 1);
        x.vouch(1, 7, 1);
        Check.same("at 5 and later", x.lose(0, 5), 3);
        tainted("at 5 and later", x, 0, 5, 6);
        Check.same("at 4 and later, told anew", x.lose(0, 4), 4);
        tainted("at 4 and later, told anew", x, 0, 4, 5, 6);
    }

    /** "With this badge": "the one before can never be told as lost any more". */
    private static void withThisBadge() {
        VouchGate x = open();
        x.vouch(0, 4, 1);
        x.issue(0);
        x.vouch(0, 5, 1);
        Check.same("in the same minute with the later badge", x.lose(0, 0), 2);
        tainted("in the same minute with the later badge", x, 0, 5);
        x.issue(0);
        x.lose(0, 0);
        tainted("a badge that vouched for nobody", x, 0, 5);
        VouchGate y = open();
        y.vouch(0, 4, 1);
        y.vouch(4, 5, 1);
        y.issue(0);
        y.lose(4, 0);
        tainted("another's badge anew changes nothing here", y, 4, 5);
    }

    /** "A bad one, for good": neither a badge anew nor a later since takes it back. */
    private static void badForGood() {
        VouchGate x = open();
        x.vouch(0, 4, 1);
        x.pass(2);
        x.lose(0, 0);
        x.lose(0, 2);
        tainted("a later since", x, 0, 4);
        x.issue(0);
        tainted("a badge anew", x, 4);
        x.lose(0, 2);
        x.issue(0);
        tainted("another one anew", x, 4);
        x.issue(4);
        tainted("the guest's badge anew", x, 4);
        x.pass(500);
        tainted("time", x, 4);
    }

    /** "Who is vouched for now by a bad one, or whose host is so, and so on": the whole way down, and not up. */
    private static void whoseHostIsSoAndSoOn() {
        VouchGate x = chained();
        Check.same("from the middle down", x.lose(7, 0), 5);
        tainted("from the middle down", x, 7, 8, 9, 10, 11);
        Check.same("from the last but one", x.lose(10, 0), 5);
        x.issue(7);
        tainted("the host of bad ones is free", x, 8, 9, 10, 11);
        Check.same("from the staff down", x.lose(3, 0), 9);
        tainted("from the staff down", x, 3, 4, 5, 6, 7, 8, 9, 10, 11);
    }

    /** "Also around a ring". */
    private static void alsoAroundARing() {
        for (int loser = 4; loser <= 11; loser++) {
            VouchGate x = ring();
            tainted("a ring alone taints nobody", x);
            Check.same("all around by " + loser, x.lose(loser, 0), 8);
            tainted("all around by " + loser, x, 4, 5, 6, 7, 8, 9, 10, 11);
            x.issue(loser);
            tainted("with the badge anew, too, " + loser, x, 4, 5, 6, 7, 8, 9, 10, 11);
        }
        VouchGate y = open();
        y.vouch(0, 4, 1);
        y.vouch(4, 5, 1);
        y.vouch(5, 6, 1);
        y.vouch(5, 4, 1);
        y.lose(4, 0);
        tainted("who hangs on a ring", y, 4, 5, 6);
        VouchGate z = open();
        z.vouch(0, 4, 1);
        z.vouch(4, 5, 1);
        z.vouch(5, 6, 1);
        z.vouch(5, 4, 1);
        z.pass(1);
        z.lose(6, 0);
        tainted("who hangs on a ring does not taint it", z, 6);
    }

    /** "As long as that is so". */
    private static void asLongAsThatIsSo() {
        VouchGate x = chained();
        x.lose(3, 0);
        x.issue(3);
        tainted("the bad one stands", x, 4, 5, 6, 7, 8, 9, 10, 11);
        x.end(6);
        tainted("cut behind the bad one", x, 4, 5);
        x.end(4);
        tainted("the bad one ended", x);
        VouchGate y = ring();
        y.lose(4, 0);
        y.issue(4);
        y.end(5);
        tainted("a ring without the bad one", y);
        VouchGate z = ring();
        z.lose(4, 0);
        z.end(4);
        tainted("a ring cut elsewhere", z, 4, 5, 6, 7, 8, 9, 10, 11);
        z.issue(4);
        tainted("a ring cut elsewhere, the badge anew", z, 5, 6, 7, 8, 9, 10, 11);
    }

    /** "Who is vouched for anew by an untainted one is not tainted by that any more". */
    private static void vouchedForAnewByAnUntaintedOne() {
        VouchGate x = chained();
        x.lose(3, 0);
        x.vouch(0, 4, 1);
        tainted("by another one", x, 3);
        VouchGate y = chained();
        y.lose(3, 0);
        y.issue(3);
        y.vouch(3, 4, 1);
        tainted("by the same one with the badge anew", y);
        y.lose(3, 0);
        tainted("until that one is lost", y, 3, 4, 5, 6, 7, 8, 9, 10, 11);
        VouchGate z = chained();
        z.lose(3, 0);
        z.vouch(1, 8, 1);
        tainted("in the middle", z, 3, 4, 5, 6, 7);
        z.lose(8, 0);
        z.vouch(1, 8, 1);
        tainted("the own badge taints still", z, 3, 4, 5, 6, 7, 8, 9, 10, 11);
    }

    /** "Returns how many persons are tainted then": one to all. */
    private static void howManyAreTainted() {
        VouchGate x = chained();
        x.pass(1);
        Check.same("one", x.lose(0, 1), 1);
        Check.same("two", x.lose(1, 0), 2);
        Check.same("again", x.lose(1, 0), 2);
        Check.same("three", x.lose(2, 1), 3);
        Check.same("the last guest", x.lose(11, 0), 4);
        Check.same("all", x.lose(3, 0), 12);
        x.issue(11);
        Check.same("all still, by the host", x.lose(3, 1), 12);
        x.issue(0);
        Check.same("all but one", x.lose(3, 1), 11);
        for (int p : new int[] {Integer.MIN_VALUE, -1, 12, Integer.MAX_VALUE}) {
            Check.throwsOut("lose of " + p, () -> x.lose(p, 0));
        }
    }

    /** "From the log of vouchings, endings, losses and issues alone, from the first one on". */
    private static void anewFromTheFirstEventOn() {
        VouchGate x = open();
        tainted("an empty log", x);
        x.lose(5, 0);
        tainted("a loss as the first event", x, 5);
        VouchGate y = open();
        y.issue(0);
        y.vouch(0, 4, 1);
        y.lose(0, 0);
        tainted("an issue as the first event", y, 0, 4);
        VouchGate z = open();
        z.vouch(0, 4, 1);
        z.lose(0, 0);
        tainted("a vouching as the first event", z, 0, 4);
        tainted("asked again", z, 0, 4);
        z.end(4);
        tainted("an ending as the last event", z, 0);
        for (int p : new int[] {Integer.MIN_VALUE, -1, 12, Integer.MAX_VALUE}) {
            Check.throwsOut("anew of " + p, () -> x.taintedAnew(p) ? 1 : 0);
        }
    }

    /** The log is full of what 512 calls can bring: the first of its events is looked at, and the last one. */
    private static void anewFromAsManyEventsAsThereCanBe() {
        VouchGate x = new VouchGate();
        for (int call = 1; call <= 511; call++) {
            x.lose(call == 511 ? 11 : call % 4, 0);
        }
        Check.yes("the last of 511 losses", x.taintedAnew(11));
        VouchGate y = new VouchGate();
        for (int call = 1; call <= 511; call++) {
            if (call == 1) {
                y.lose(6, 0);
            } else {
                y.issue(7);
            }
        }
        Check.yes("the first of 511 events", y.taintedAnew(6));
        VouchGate z = new VouchGate();
        Check.enter(z, 0, 0);
        for (int call = 2; call <= 508; call++) {
            z.issue(1 + call % 3);
        }
        z.vouch(0, 4, 1);
        z.lose(0, 0);
        z.end(4);
        Check.no("an ending as the last of 510 events", z.taintedAnew(4));
    }
}
