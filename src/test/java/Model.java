import java.util.ArrayList;
import java.util.HashSet;
import java.util.List;
import java.util.Set;

/** The document told once more, in another way: nothing is marked, all is found from what was told so far. */
final class Model {
    /** One vouching. */
    static final class Vouching {
        int host, guest, rooms, minute, badge;
        boolean over;
    }

    /** One badge told as lost. */
    static final class Loss {
        int badge, since;
    }

    int now = 0;
    int issued = 12;
    final int[] words = new int[12];
    final int[] badges = new int[12];
    final int[] keepers = new int[4];
    final int[] thresholds = {1, 1, 1, 1};
    /** Of each person the minutes of failures since the latest login or rest, of the rest, and of the login. */
    final List<List<Integer>> failed = new ArrayList<>();
    final List<List<Integer>> rested = new ArrayList<>();
    final List<List<Integer>> entered = new ArrayList<>();
    final List<Vouching> vouchings = new ArrayList<>();
    final List<Loss> losses = new ArrayList<>();

    Model() {
        for (int p = 0; p < 12; p++) {
            words[p] = 11 * p;
            badges[p] = p;
            failed.add(new ArrayList<>());
            rested.add(new ArrayList<>());
            entered.add(new ArrayList<>());
        }
    }

    private static void out(boolean wrong) {
        if (wrong) {
            throw new IndexOutOfBoundsException();
        }
    }

    private static void argument(boolean wrong) {
        if (wrong) {
            throw new IllegalArgumentException();
        }
    }

    private static void state(boolean wrong) {
        if (wrong) {
            throw new IllegalStateException();
        }
    }

    private static boolean in(int low, int value, int high) {
        return low <= value && value <= high;
    }

    long word(int person, int word) {
        out(!in(0, person, 11));
        argument(!in(0, word, 999));
        state(!inSession(person));
        words[person] = word;
        return 0;
    }

    int code(int person) {
        return (7 * person + 3 * now) % 10;
    }

    int login(int person, int word, int code) {
        out(!in(0, person, 11));
        argument(!in(0, word, 999) || !in(0, code, 9));
        for (int minute : rested.get(person)) {
            if (now - minute < 10) {
                return 3;
            }
        }
        if (word == words[person] && code == code(person)) {
            failed.get(person).clear();
            entered.get(person).add(now);
            return 0;
        }
        failed.get(person).add(now);
        if (failed.get(person).size() == 3) {
            failed.get(person).clear();
            rested.get(person).add(now);
        }
        return word == words[person] ? 2 : 1;
    }

    int pass(int minutes) {
        argument(!in(1, minutes, 500));
        now += minutes;
        return now;
    }

    int vouch(int host, int guest, int rooms) {
        out(!in(0, host, 11) || !in(4, guest, 11));
        argument(host == guest || !in(1, rooms, 63));
        state(!inSession(host) || tainted(host) || !trusted().contains(host) || vouchings.size() == 100);
        Vouching before = standing(guest);
        if (before != null) {
            before.over = true;
        }
        Vouching made = new Vouching();
        made.host = host;
        made.guest = guest;
        made.rooms = rooms;
        made.minute = now;
        made.badge = badges[host];
        vouchings.add(made);
        return vouchings.size();
    }

    int end(int guest) {
        out(!in(4, guest, 11));
        Vouching standing = standing(guest);
        state(standing == null);
        standing.over = true;
        return standing.host;
    }

    int lose(int person, int since) {
        out(!in(0, person, 11));
        argument(!in(0, since, now));
        Loss loss = new Loss();
        loss.badge = badges[person];
        loss.since = since;
        losses.add(loss);
        int count = 0;
        for (int p = 0; p < 12; p++) {
            count += tainted(p) ? 1 : 0;
        }
        return count;
    }

    int issue(int person) {
        out(!in(0, person, 11));
        badges[person] = issued++;
        return badges[person];
    }

    boolean door(int person, int room) {
        out(!in(0, person, 11) || !in(0, room, 5));
        return !tainted(person) && rooms(person).contains(room);
    }

    int share(int key, int set, int threshold) {
        out(!in(0, key, 3));
        argument(!in(1, set, 4095));
        argument(!in(1, threshold, Integer.toBinaryString(set).replace("0", "").length()));
        int before = thresholds[key];
        keepers[key] = set;
        thresholds[key] = threshold;
        return before;
    }

    boolean use(int key) {
        out(!in(0, key, 3));
        return users(key) >= thresholds[key];
    }

    int of(int person, int what) {
        out(!in(0, person, 11));
        argument(!in(0, what, 7));
        Vouching standing = standing(person);
        int set = 0;
        for (int room : rooms(person)) {
            set += 1 << room;
        }
        int[] all = {inSession(person) ? 1 : 0, trusted().contains(person) ? 1 : 0, tainted(person) ? 1 : 0, set,
            standing == null ? -1 : standing.host, failed.get(person).size(),
            inSession(person) ? sessionEnd(person) : -1, badges[person]};
        return all[what];
    }

    boolean taintedAnew(int person) {
        out(!in(0, person, 11));
        return tainted(person);
    }

    int chain(int person) {
        out(!in(0, person, 11));
        if (!trusted().contains(person)) {
            return -1;
        }
        return person < 4 ? 0 : 1 + chain(standing(person).host);
    }

    int ending(int rank) {
        out(rank < 0);
        List<Integer> order = new ArrayList<>();
        for (int p = 0; p < 12; p++) {
            if (inSession(p)) {
                order.add(p);
            }
        }
        order.sort((a, b) -> sessionEnd(a) != sessionEnd(b) ? sessionEnd(a) - sessionEnd(b) : a - b);
        return rank < order.size() ? order.get(rank) : -1;
    }

    char sign(int person, int place) {
        out(!in(0, person, 11) || place < 0);
        int badge = badges[person];
        String text = person + "-" + new StringBuilder("" + badge).reverse()
            + "ABCDEFGHIJKLMNOPQRSTUVWXYZ".charAt((badge * 3 + person) % 26);
        return place < text.length() ? text.charAt(place) : 0;
    }

    int keyOf(int key, int what) {
        out(!in(0, key, 3));
        argument(!in(0, what, 2));
        return what == 0 ? keepers[key] : what == 1 ? thresholds[key] : users(key);
    }

    private int users(int key) {
        int count = 0;
        for (int p : trusted()) {
            if ((keepers[key] & 1 << p) != 0 && inSession(p) && !tainted(p)) {
                count++;
            }
        }
        return count;
    }

    private int sessionEnd(int person) {
        List<Integer> minutes = entered.get(person);
        return minutes.isEmpty() ? -1 : minutes.get(minutes.size() - 1) + 30;
    }

    private boolean inSession(int person) {
        return now < sessionEnd(person);
    }

    private Vouching standing(int guest) {
        Vouching found = null;
        for (Vouching vouching : vouchings) {
            if (vouching.guest == guest && !vouching.over) {
                found = vouching;
            }
        }
        return found;
    }

    private Set<Integer> trusted() {
        Set<Integer> trusted = new HashSet<>(List.of(0, 1, 2, 3));
        for (int round = 0; round < 12; round++) {
            for (int p = 4; p < 12; p++) {
                Vouching standing = standing(p);
                if (standing != null && trusted.contains(standing.host)) {
                    trusted.add(p);
                }
            }
        }
        return trusted;
    }

    private Set<Integer> rooms(int person) {
        if (!trusted().contains(person)) {
            return new HashSet<>();
        }
        if (person < 4) {
            return new HashSet<>(List.of(0, 1, 2, 3, 4, 5));
        }
        Set<Integer> rooms = rooms(standing(person).host);
        rooms.removeIf(room -> (standing(person).rooms & 1 << room) == 0);
        return rooms;
    }

    private boolean bad(Vouching vouching) {
        for (Loss loss : losses) {
            if (loss.badge == vouching.badge && vouching.minute >= loss.since) {
                return true;
            }
        }
        return false;
    }

    private boolean tainted(int person) {
        for (Loss loss : losses) {
            if (loss.badge == badges[person]) {
                return true;
            }
        }
        Set<Integer> stained = new HashSet<>();
        for (int round = 0; round < 12; round++) {
            for (int p = 4; p < 12; p++) {
                Vouching standing = standing(p);
                if (standing != null && (bad(standing) || stained.contains(standing.host))) {
                    stained.add(p);
                }
            }
        }
        return stained.contains(person);
    }
}
