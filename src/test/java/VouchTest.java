/** Promises 5, 6, 9 and 14: vouch, end, door, chain. */
public final class VouchTest {
    public static void main(String[] args) {
        vouching();
        whoMayVouch();
        wrongVouchings();
        fullLog();
        rings();
        roomsOfAChain();
        ending();
        doors();
        chains();
        Check.report();
    }

    private static void vouching() {
        VouchGate x = new VouchGate();
        Check.enter(x, 0, 0, 1, 4);
        Check.same("promise 5: first", x.vouch(0, 4, 63), 1);
        Check.same("promise 5: host", x.of(4, 4), 0);
        Check.same("promise 5: a guest for a guest", x.vouch(4, 11, 1), 2);
        Check.same("promise 5: in place of the one before", x.vouch(1, 11, 2), 3);
        Check.same("promise 5: new host", x.of(11, 4), 1);
        Check.same("promise 5: new rooms", x.of(11, 3), 2);
        Check.same("promise 5: the same once more counts", x.vouch(1, 11, 2), 4);
        x.end(11);
        Check.same("promise 5: ended ones stay in the log", x.vouch(1, 11, 2), 5);
        Check.same("promise 5: lowest rooms", x.vouch(1, 5, 1), 6);
        Check.same("promise 5: for a guest who is not in", x.of(5, 3), 1);
    }

    private static void whoMayVouch() {
        VouchGate x = new VouchGate();
        Check.throwsState("promise 5: not in a session", () -> x.vouch(0, 4, 1));
        Check.enter(x, 0, 0, 4, 5);
        Check.throwsState("promise 5: not trusted", () -> x.vouch(4, 5, 1));
        x.vouch(0, 4, 1);
        Check.same("promise 5: trusted now", x.vouch(4, 5, 1), 2);
        Check.same("promise 5: trusted by a guest", x.vouch(5, 6, 1), 3);
        x.end(4);
        Check.throwsState("promise 5: nobody trusted vouches any more", () -> x.vouch(5, 6, 1));
        x.vouch(0, 4, 1);
        x.lose(4, 0);
        Check.throwsState("promise 5: tainted by the own badge", () -> x.vouch(4, 6, 1));
        Check.throwsState("promise 5: tainted by the host's", () -> x.vouch(5, 6, 1));
        x.issue(4);
        Check.same("promise 5: not tainted any more", x.vouch(4, 6, 1), 5);
        x.pass(29);
        Check.same("promise 5: last minute", x.vouch(0, 4, 1), 6);
        x.pass(1);
        Check.throwsState("promise 5: session ended", () -> x.vouch(0, 4, 1));
    }

    private static void wrongVouchings() {
        VouchGate x = new VouchGate();
        Check.enter(x, 0, 0, 4);
        Check.throwsOut("promise 5: host -1", () -> x.vouch(-1, 4, 1));
        Check.throwsOut("promise 5: host 12", () -> x.vouch(12, 4, 1));
        Check.throwsOut("promise 5: guest 3", () -> x.vouch(0, 3, 1));
        Check.throwsOut("promise 5: guest 12", () -> x.vouch(0, 12, 1));
        Check.throwsOut("promise 5: guest -1", () -> x.vouch(0, -1, 1));
        Check.throwsOut("promise 5: guest goes ahead of rooms", () -> x.vouch(0, 3, 64));
        Check.throwsOut("promise 5: staff for oneself", () -> x.vouch(0, 0, 1));
        Check.throwsArgument("promise 5: the same", () -> x.vouch(4, 4, 1));
        Check.throwsArgument("promise 5: no rooms", () -> x.vouch(0, 4, 0));
        Check.throwsArgument("promise 5: rooms 64", () -> x.vouch(0, 4, 64));
        Check.throwsArgument("promise 5: rooms -1", () -> x.vouch(0, 4, -1));
        Check.throwsArgument("promise 5: rooms go ahead of the session", () -> x.vouch(1, 4, 64));
        Check.same("promise 5: throwing changes nothing", x.of(4, 4), -1);
        Check.same("promise 5: nor the log", x.vouch(0, 4, 63), 1);
    }

    private static void fullLog() {
        VouchGate x = new VouchGate();
        Check.enter(x, 0, 0, 1);
        for (int n = 1; n <= 100; n++) {
            Check.same("promise 5: number", x.vouch(0, 4 + n % 8, 1 + n % 63), n);
        }
        int host = x.of(5, 4);
        Check.throwsState("promise 5: the 101st", () -> x.vouch(1, 5, 1));
        Check.same("promise 5: the 101st changes nothing", x.of(5, 4), host);
        Check.throwsArgument("promise 5: arguments go ahead of a full log", () -> x.vouch(1, 5, 0));
        x.end(5);
        Check.throwsState("promise 5: an ending makes no room", () -> x.vouch(1, 5, 1));
        Check.same("promise 7: all in a full log", x.lose(0, 0), 8);
        Check.yes("promise 13: anew from a full log", x.taintedAnew(4));
        Check.no("promise 13: ended in a full log", x.taintedAnew(5));
    }

    private static void rings() {
        VouchGate x = new VouchGate();
        Check.enter(x, 0, 0, 4, 5, 6);
        x.vouch(0, 4, 7);
        x.vouch(4, 5, 7);
        x.vouch(5, 6, 7);
        x.vouch(6, 7, 7);
        Check.same("promise 5: closes a ring", x.vouch(6, 4, 7), 5);
        for (int p = 4; p < 8; p++) {
            Check.same("promise 5: a ring is trusted by nobody, " + p, x.of(p, 1), 0);
            Check.same("promise 5: has no rooms, " + p, x.of(p, 3), 0);
            Check.same("promise 14: no chain, " + p, x.chain(p), -1);
        }
        Check.throwsState("promise 5: nobody in a ring vouches", () -> x.vouch(5, 8, 7));
        x.vouch(0, 5, 3);
        Check.same("promise 14: opened ring, 5", x.chain(5), 1);
        Check.same("promise 14: opened ring, 6", x.chain(6), 2);
        Check.same("promise 14: opened ring, 4", x.chain(4), 3);
        Check.same("promise 14: opened ring, 7", x.chain(7), 3);
        Check.same("promise 5: rooms behind the ring", x.of(4, 3), 3);
    }

    private static void roomsOfAChain() {
        VouchGate x = new VouchGate();
        Check.enter(x, 0, 0, 4, 5);
        x.vouch(0, 4, 0b011110);
        x.vouch(4, 5, 0b110111);
        x.vouch(5, 6, 0b101101);
        Check.same("rooms: first", x.of(4, 3), 0b011110);
        Check.same("rooms: both", x.of(5, 3), 0b010110);
        Check.same("rooms: all three", x.of(6, 3), 0b000100);
        x.vouch(0, 4, 0b100001);
        Check.same("rooms: go with the host's", x.of(6, 3), 0b100001);
        x.lose(0, 0);
        Check.same("rooms: taint takes none", x.of(6, 3), 0b100001);
        Check.same("rooms: staff", x.of(0, 3), 63);
        x.end(4);
        Check.same("rooms: gone with the trust", x.of(6, 3), 0);
        x.pass(30);
        Check.same("rooms: not by sessions", x.of(0, 3), 63);
    }

    private static void ending() {
        VouchGate x = new VouchGate();
        Check.enter(x, 0, 2, 4);
        Check.throwsState("promise 6: nobody yet", () -> x.end(4));
        x.vouch(2, 4, 1);
        x.vouch(4, 5, 1);
        Check.same("promise 6: who did", x.end(5), 4);
        Check.same("promise 6: nobody then", x.of(5, 4), -1);
        Check.throwsState("promise 6: a second time", () -> x.end(5));
        x.vouch(4, 5, 1);
        Check.same("promise 6: the host's", x.end(4), 2);
        Check.same("promise 6: leaves what the guest vouched", x.of(5, 4), 4);
        Check.same("promise 6: but without trust", x.of(5, 1), 0);
        x.pass(100);
        Check.same("promise 6: needs no session", x.end(5), 4);
        Check.throwsOut("promise 6: staff", () -> x.end(3));
        Check.throwsOut("promise 6: 12", () -> x.end(12));
        Check.throwsOut("promise 6: -1", () -> x.end(-1));
        Check.throwsState("promise 6: highest guest", () -> x.end(11));
    }

    private static void doors() {
        VouchGate x = new VouchGate();
        Check.yes("promise 9: staff without a session", x.door(3, 0));
        Check.yes("promise 9: staff, last room", x.door(0, 5));
        Check.no("promise 9: guest of nobody", x.door(4, 0));
        Check.enter(x, 0, 0);
        x.vouch(0, 11, 0b100001);
        Check.yes("promise 9: first room", x.door(11, 0));
        Check.no("promise 9: not that room", x.door(11, 1));
        Check.yes("promise 9: last room", x.door(11, 5));
        x.lose(0, 0);
        Check.no("promise 9: tainted staff", x.door(0, 0));
        Check.no("promise 9: tainted guest", x.door(11, 0));
        x.issue(0);
        Check.yes("promise 9: untainted staff", x.door(0, 0));
        Check.no("promise 9: guest still tainted", x.door(11, 0));
        Check.throwsOut("promise 9: person -1", () -> x.door(-1, 0) ? 1 : 0);
        Check.throwsOut("promise 9: person 12", () -> x.door(12, 0) ? 1 : 0);
        Check.throwsOut("promise 9: room -1", () -> x.door(0, -1) ? 1 : 0);
        Check.throwsOut("promise 9: room 6", () -> x.door(0, 6) ? 1 : 0);
        Check.throwsOut("promise 9: room 32", () -> x.door(0, 32) ? 1 : 0);
    }

    private static void chains() {
        VouchGate x = new VouchGate();
        Check.enter(x, 0, 3, 4, 5, 6, 7, 8, 9, 10);
        for (int p = 4; p < 12; p++) {
            Check.same("promise 14: not trusted yet, " + p, x.chain(p), -1);
            x.vouch(p == 4 ? 3 : p - 1, p, 63);
            Check.same("promise 14: chain of " + p, x.chain(p), p - 3);
        }
        x.lose(3, 0);
        Check.same("promise 14: taint does not break it", x.chain(11), 8);
        x.end(7);
        Check.same("promise 14: ahead of the end", x.chain(6), 3);
        Check.same("promise 14: at the end", x.chain(7), -1);
        Check.same("promise 14: behind the end", x.chain(11), -1);
        for (int p = 0; p < 4; p++) {
            Check.same("promise 14: staff", x.chain(p), 0);
        }
        Check.throwsOut("promise 14: -1", () -> x.chain(-1));
        Check.throwsOut("promise 14: 12", () -> x.chain(12));
    }
}
