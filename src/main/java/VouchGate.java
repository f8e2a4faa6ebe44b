/** A house with a login desk, guests who are vouched for, badges that are lost, and keys split among keepers. */
public final class VouchGate {
    public static final int NONE = -1;
    public static final int IN = 0, WRONG_WORD = 1, WRONG_CODE = 2, RESTS = 3;

    private static final int PERSONS = 12;
    private static final int STAFF = 4;
    private static final int ROOMS = 6;
    private static final int ALL_ROOMS = 63;
    private static final int KEYS = 4;
    private static final int ALL_PERSONS = 4095;
    private static final int MOST_VOUCHINGS = 100;
    private static final int MOST_EVENTS = 512;
    private static final int TOP_WORD = 999;
    private static final int TOP_CODE = 9;
    private static final int TOP_PASS = 500;
    private static final int SESSION_MINUTES = 30;
    private static final int REST_MINUTES = 10;
    private static final int FAILURES_TO_REST = 3;
    private static final int MOST_DIGITS = 10;

    private final Desk desk;
    private final Ties ties;
    private final Ties tiesAnew;
    private final Log log;
    private final int[] keepers;
    private final int[] thresholds;
    private int now;

    public VouchGate() {
        desk = new Desk();
        ties = new Ties();
        tiesAnew = new Ties();
        log = new Log();
        keepers = new int[KEYS];
        thresholds = new int[KEYS];
        for (int key = 0; key < KEYS; key++) {
            thresholds[key] = 1;
        }
        now = 0;
    }

    // ---- logins

    public void word(int person, int word)
            throws IndexOutOfBoundsException, IllegalArgumentException, IllegalStateException {
        if (!isPerson(person)) {
            throw new IndexOutOfBoundsException("no such person");
        }
        if (word < 0 || word > TOP_WORD) {
            throw new IllegalArgumentException("word out of range");
        }
        if (!desk.isInSession(person, now)) {
            throw new IllegalStateException("not in a session");
        }
        desk.setWord(person, word);
    }

    public int login(int person, int word, int code) throws IndexOutOfBoundsException, IllegalArgumentException {
        if (!isPerson(person)) {
            throw new IndexOutOfBoundsException("no such person");
        }
        if (word < 0 || word > TOP_WORD || code < 0 || code > TOP_CODE) {
            throw new IllegalArgumentException("word or code out of range");
        }
        return desk.tryLogin(person, word, code, now);
    }

    public int pass(int minutes) throws IllegalArgumentException {
        if (minutes < 1 || minutes > TOP_PASS) {
            throw new IllegalArgumentException("minutes out of range");
        }
        now += minutes;
        return now;
    }

    // ---- vouching and badges

    public int vouch(int host, int guest, int rooms)
            throws IndexOutOfBoundsException, IllegalArgumentException, IllegalStateException {
        if (!isPerson(host) || !isGuest(guest)) {
            throw new IndexOutOfBoundsException("no such host or guest");
        }
        if (host == guest || rooms < 1 || rooms > ALL_ROOMS) {
            throw new IllegalArgumentException("the same person, or rooms out of range");
        }
        if (!mayAct(host) || log.countVouchings() >= MOST_VOUCHINGS) {
            throw new IllegalStateException("may not vouch now");
        }
        ties.tie(host, guest, now);
        ties.setRooms(guest, rooms);
        log.addVouching(host, guest, now);
        return log.countVouchings();
    }

    public int end(int guest) throws IndexOutOfBoundsException, IllegalStateException {
        if (!isGuest(guest)) {
            throw new IndexOutOfBoundsException("no such guest");
        }
        int host = ties.hostOf(guest);
        if (host == NONE) {
            throw new IllegalStateException("nobody vouches");
        }
        ties.untie(guest);
        log.addEnding(guest);
        return host;
    }

    public int lose(int person, int since) throws IndexOutOfBoundsException, IllegalArgumentException {
        if (!isPerson(person)) {
            throw new IndexOutOfBoundsException("no such person");
        }
        if (since < 0 || since > now) {
            throw new IllegalArgumentException("since out of range");
        }
        ties.markLost(person, since);
        log.addLoss(person, since);
        return ties.countTainted();
    }

    public int issue(int person) throws IndexOutOfBoundsException {
        if (!isPerson(person)) {
            throw new IndexOutOfBoundsException("no such person");
        }
        ties.renewBadge(person);
        log.addIssue(person);
        return ties.badgeOf(person);
    }

    public boolean door(int person, int room) throws IndexOutOfBoundsException {
        if (!isPerson(person) || room < 0 || room >= ROOMS) {
            throw new IndexOutOfBoundsException("no such person or room");
        }
        return holds(ties.roomsOf(person), room) && !ties.isTainted(person);
    }

    // ---- keys

    public int share(int key, int keepers, int threshold)
            throws IndexOutOfBoundsException, IllegalArgumentException {
        if (!isKey(key)) {
            throw new IndexOutOfBoundsException("no such key");
        }
        if (keepers < 1 || keepers > ALL_PERSONS) {
            throw new IllegalArgumentException("keepers out of range");
        }
        if (threshold < 1 || threshold > Integer.bitCount(keepers)) {
            throw new IllegalArgumentException("threshold out of range");
        }
        int before = thresholds[key];
        this.keepers[key] = keepers;
        thresholds[key] = threshold;
        return before;
    }

    public boolean use(int key) throws IndexOutOfBoundsException {
        if (!isKey(key)) {
            throw new IndexOutOfBoundsException("no such key");
        }
        return countUsers(key) >= thresholds[key];
    }

    // ---- asking

    public int of(int person, int what) throws IndexOutOfBoundsException, IllegalArgumentException {
        if (!isPerson(person)) {
            throw new IndexOutOfBoundsException("no such person");
        }
        switch (what) {
            case 0: return asNumber(desk.isInSession(person, now));
            case 1: return asNumber(ties.isTrusted(person));
            case 2: return asNumber(ties.isTainted(person));
            case 3: return ties.roomsOf(person);
            case 4: return ties.hostOf(person);
            case 5: return desk.failuresOf(person);
            case 6: return desk.isInSession(person, now) ? desk.sessionEndOf(person) : NONE;
            case 7: return ties.badgeOf(person);
            default: throw new IllegalArgumentException("what out of range");
        }
    }

    public boolean taintedAnew(int person) throws IndexOutOfBoundsException {
        if (!isPerson(person)) {
            throw new IndexOutOfBoundsException("no such person");
        }
        log.replayInto(tiesAnew);
        return tiesAnew.isTainted(person);
    }

    public int chain(int person) throws IndexOutOfBoundsException {
        if (!isPerson(person)) {
            throw new IndexOutOfBoundsException("no such person");
        }
        return ties.stepsToStaff(person);
    }

    public int ending(int rank) throws IndexOutOfBoundsException {
        if (rank < 0) {
            throw new IndexOutOfBoundsException("no such rank");
        }
        for (int person = 0; person < PERSONS; person++) {
            if (desk.isInSession(person, now) && desk.countEndingAheadOf(person, now) == rank) {
                return person;
            }
        }
        return NONE;
    }

    public char sign(int person, int place) throws IndexOutOfBoundsException {
        if (!isPerson(person) || place < 0) {
            throw new IndexOutOfBoundsException("no such person or place");
        }
        StringBuilder text = badgeText(person, ties.badgeOf(person));
        return place < text.length() ? text.charAt(place) : (char) 0;
    }

    public int keyOf(int key, int what) throws IndexOutOfBoundsException, IllegalArgumentException {
        if (!isKey(key)) {
            throw new IndexOutOfBoundsException("no such key");
        }
        switch (what) {
            case 0: return keepers[key];
            case 1: return thresholds[key];
            case 2: return countUsers(key);
            default: throw new IllegalArgumentException("what out of range");
        }
    }

    // ---- inside

    private static boolean isPerson(int person) {
        return person >= 0 && person < PERSONS;
    }

    private static boolean isGuest(int person) {
        return person >= STAFF && person < PERSONS;
    }

    private static boolean isKey(int key) {
        return key >= 0 && key < KEYS;
    }

    private static int asNumber(boolean is) {
        return is ? 1 : 0;
    }

    private static boolean holds(int set, int member) {
        return (set >> member & 1) == 1;
    }

    /** The document asks the same of one who vouches and of one who uses a key. */
    private boolean mayAct(int person) {
        return desk.isInSession(person, now) && ties.isTrusted(person) && !ties.isTainted(person);
    }

    private int countUsers(int key) {
        int users = 0;
        for (int person = 0; person < PERSONS; person++) {
            if (holds(keepers[key], person) && mayAct(person)) {
                users++;
            }
        }
        return users;
    }

    private static StringBuilder badgeText(int person, int badge) {
        StringBuilder text = new StringBuilder();
        text.append(person);
        text.append('-');
        appendBackwards(text, badge);
        text.append((char) ('A' + (3 * badge + person) % 26));
        return text;
    }

    private static void appendBackwards(StringBuilder text, int number) {
        int rest = number;
        for (int digits = 0; digits < MOST_DIGITS; digits++) {
            text.append((char) ('0' + rest % 10));
            rest /= 10;
            if (rest == 0) {
                return;
            }
        }
    }

    /** The words, failures, rests and sessions of the persons. */
    private static final class Desk {
        private final int[] words;
        private final int[] failures;
        private final int[] restEnds;
        private final int[] sessionEnds;

        Desk() {
            words = new int[PERSONS];
            failures = new int[PERSONS];
            restEnds = new int[PERSONS];
            sessionEnds = new int[PERSONS];
            for (int person = 0; person < PERSONS; person++) {
                words[person] = 11 * person;
            }
        }

        void setWord(int person, int word) {
            words[person] = word;
        }

        int tryLogin(int person, int word, int code, int now) {
            if (now < restEnds[person]) {
                return RESTS;
            }
            if (word != words[person]) {
                countFailure(person, now);
                return WRONG_WORD;
            }
            if (code != codeOf(person, now)) {
                countFailure(person, now);
                return WRONG_CODE;
            }
            failures[person] = 0;
            sessionEnds[person] = now + SESSION_MINUTES;
            return IN;
        }

        private static int codeOf(int person, int now) {
            return (7 * person + 3 * now) % 10;
        }

        private void countFailure(int person, int now) {
            failures[person]++;
            if (failures[person] >= FAILURES_TO_REST) {
                failures[person] = 0;
                restEnds[person] = now + REST_MINUTES;
            }
        }

        boolean isInSession(int person, int now) {
            return now < sessionEnds[person];
        }

        int failuresOf(int person) {
            return failures[person];
        }

        int sessionEndOf(int person) {
            return sessionEnds[person];
        }

        int countEndingAheadOf(int person, int now) {
            int ahead = 0;
            for (int other = 0; other < PERSONS; other++) {
                if (isInSession(other, now) && endsAheadOf(other, person)) {
                    ahead++;
                }
            }
            return ahead;
        }

        private boolean endsAheadOf(int one, int other) {
            if (sessionEnds[one] != sessionEnds[other]) {
                return sessionEnds[one] < sessionEnds[other];
            }
            return one < other;
        }
    }

    /** Who vouches for whom now, and the badges: all that follows from the log. */
    private static final class Ties {
        private final int[] hosts;
        private final int[] rooms;
        private final int[] minutes;
        private final int[] hostBadges;
        private final boolean[] bad;
        private final int[] badges;
        private final boolean[] lost;
        private int nextBadge;

        Ties() {
            hosts = new int[PERSONS];
            rooms = new int[PERSONS];
            minutes = new int[PERSONS];
            hostBadges = new int[PERSONS];
            bad = new boolean[PERSONS];
            badges = new int[PERSONS];
            lost = new boolean[PERSONS];
            reset();
        }

        void reset() {
            for (int person = 0; person < PERSONS; person++) {
                hosts[person] = NONE;
                bad[person] = false;
                badges[person] = person;
                lost[person] = false;
            }
            nextBadge = PERSONS;
        }

        void tie(int host, int guest, int minute) {
            hosts[guest] = host;
            minutes[guest] = minute;
            hostBadges[guest] = badges[host];
            bad[guest] = false;
        }

        /** Rooms stand apart from the tie: taint does not go by them, so the log leaves them out. */
        void setRooms(int guest, int forRooms) {
            rooms[guest] = forRooms;
        }

        void untie(int guest) {
            hosts[guest] = NONE;
            bad[guest] = false;
        }

        /** Only vouchings that stand now are marked: one that was replaced or ended never counts again. */
        void markLost(int person, int since) {
            lost[person] = true;
            for (int guest = STAFF; guest < PERSONS; guest++) {
                if (hosts[guest] == person && hostBadges[guest] == badges[person] && minutes[guest] >= since) {
                    bad[guest] = true;
                }
            }
        }

        void renewBadge(int person) {
            badges[person] = nextBadge;
            nextBadge++;
            lost[person] = false;
        }

        int hostOf(int person) {
            return hosts[person];
        }

        int badgeOf(int person) {
            return badges[person];
        }

        /** No chain to staff is longer than the persons are many: one that goes on is caught in a ring. */
        int stepsToStaff(int person) {
            int at = person;
            for (int steps = 0; steps < PERSONS && isPerson(at); steps++) {
                if (!isGuest(at)) {
                    return steps;
                }
                at = hosts[at];
            }
            return NONE;
        }

        boolean isTrusted(int person) {
            return stepsToStaff(person) != NONE;
        }

        int roomsOf(int person) {
            if (!isTrusted(person)) {
                return 0;
            }
            int set = ALL_ROOMS;
            int at = person;
            for (int steps = 0; steps < PERSONS && isGuest(at); steps++) {
                set &= rooms[at];
                at = hosts[at];
            }
            return set;
        }

        boolean isTainted(int person) {
            return lost[person] || standsOnBadVouching(person);
        }

        /** A host whose badge is lost taints by vouchings that are bad alone, so lost is not looked at here. */
        private boolean standsOnBadVouching(int person) {
            int at = person;
            for (int steps = 0; steps < PERSONS && isGuest(at); steps++) {
                if (bad[at]) {
                    return true;
                }
                at = hosts[at];
            }
            return false;
        }

        int countTainted() {
            int tainted = 0;
            for (int person = 0; person < PERSONS; person++) {
                if (isTainted(person)) {
                    tainted++;
                }
            }
            return tainted;
        }
    }

    /** All vouchings, endings, losses and issues, in their order. */
    private static final class Log {
        private static final int VOUCHING = 0;
        private static final int ENDING = 1;
        private static final int LOSS = 2;
        private static final int ISSUE = 3;

        private final int[] kinds;
        private final int[] persons;
        private final int[] guests;
        private final int[] minutes;
        private int size;
        private int vouchings;

        Log() {
            kinds = new int[MOST_EVENTS];
            persons = new int[MOST_EVENTS];
            guests = new int[MOST_EVENTS];
            minutes = new int[MOST_EVENTS];
            size = 0;
            vouchings = 0;
        }

        int countVouchings() {
            return vouchings;
        }

        void addVouching(int host, int guest, int minute) {
            add(VOUCHING, host, guest, minute);
            vouchings++;
        }

        void addEnding(int guest) {
            add(ENDING, NONE, guest, 0);
        }

        void addLoss(int person, int since) {
            add(LOSS, person, NONE, since);
        }

        void addIssue(int person) {
            add(ISSUE, person, NONE, 0);
        }

        /** The log holds one event for each promised call; what comes behind them is free, and not kept. */
        private void add(int kind, int person, int guest, int minute) {
            if (size >= MOST_EVENTS) {
                return;
            }
            kinds[size] = kind;
            persons[size] = person;
            guests[size] = guest;
            minutes[size] = minute;
            size++;
        }

        void replayInto(Ties ties) {
            ties.reset();
            for (int event = 0; event < size; event++) {
                replayOne(event, ties);
            }
        }

        private void replayOne(int event, Ties ties) {
            switch (kinds[event]) {
                case VOUCHING:
                    ties.tie(persons[event], guests[event], minutes[event]);
                    break;
                case ENDING:
                    ties.untie(guests[event]);
                    break;
                case LOSS:
                    ties.markLost(persons[event], minutes[event]);
                    break;
                default:
                    ties.renewBadge(persons[event]);
                    break;
            }
        }
    }
}
