import java.util.Random;

/** All promises: long runs of calls, each answer held against the model's; the seeds are written here, so all runs are the same. */
public final class ModelTest {
    private static final int RUNS = 400;
    private static final int CALLS = 512;
    private static final int[] STRANGE = {Integer.MIN_VALUE, Integer.MIN_VALUE + 1, -4096, -33, -12, -2, -1, 0, 3, 4, 5, 6, 7,
        8, 10, 12, 13, 31, 32, 63, 64, 501, 1000, 4096, Integer.MAX_VALUE - 1, Integer.MAX_VALUE};

    private final Random dice;
    private final VouchGate gate = new VouchGate();
    private final Model model = new Model();
    private final int strangeness;

    private ModelTest(long seed) {
        dice = new Random(seed);
        strangeness = seed % 4 == 0 ? 10 : 60;
    }

    public static void main(String[] args) {
        for (int seed = 1; seed <= RUNS; seed++) {
            ModelTest run = new ModelTest(seed);
            for (int call = 0; call < CALLS; call++) {
                run.step("run " + seed + " call " + call + " ");
            }
        }
        strangeArgumentsForLong();
        Check.report();
    }

    private int number(int low, int high) {
        if (dice.nextInt(strangeness) == 0) {
            return STRANGE[dice.nextInt(STRANGE.length)];
        }
        return low + dice.nextInt(high - low + 1);
    }

    private void step(String where) {
        if (dice.nextInt(5) < 3) {
            act(where);
        } else {
            ask(where);
        }
    }

    private void hold(String what, Check.Call gates, Check.Call models) {
        Check.same(what, Check.outcome(gates), Check.outcome(models));
    }

    private void act(String where) {
        int kind = dice.nextInt(24);
        int a = number(0, 11);
        if (kind < 7) {
            logIn(where, a);
        } else if (kind < 9) {
            int minutes = dice.nextInt(20) == 0 ? number(1, 500) : number(1, 6);
            hold(where + "pass " + minutes, () -> gate.pass(minutes), () -> model.pass(minutes));
        } else if (kind < 10) {
            int word = number(0, 999);
            hold(where + "word " + a + " " + word, () -> Check.setWord(gate, a, word), () -> model.word(a, word));
        } else if (kind < 17) {
            int guest = number(4, 11);
            int rooms = number(1, 63) | number(1, 63);
            hold(where + "vouch " + a + " " + guest + " " + rooms,
                () -> gate.vouch(a, guest, rooms), () -> model.vouch(a, guest, rooms));
        } else if (kind < 18) {
            int guest = number(4, 11);
            hold(where + "end " + guest, () -> gate.end(guest), () -> model.end(guest));
        } else if (kind < 20) {
            int since = number(Math.max(0, model.now - 9), model.now);
            hold(where + "lose " + a + " " + since, () -> gate.lose(a, since), () -> model.lose(a, since));
        } else if (kind < 23) {
            hold(where + "issue " + a, () -> gate.issue(a), () -> model.issue(a));
        } else {
            int key = number(0, 3);
            int keepers = number(1, 4095);
            int threshold = number(1, 6);
            hold(where + "share " + key + " " + keepers + " " + threshold,
                () -> gate.share(key, keepers, threshold), () -> model.share(key, keepers, threshold));
        }
    }

    private void logIn(String where, int person) {
        boolean known = person >= 0 && person < 12;
        int word = known && dice.nextInt(8) > 0 ? model.words[person] : number(0, 999);
        int code = known && dice.nextInt(8) > 0 ? model.code(person) : number(0, 9);
        hold(where + "login " + person + " " + word + " " + code,
            () -> gate.login(person, word, code), () -> model.login(person, word, code));
    }

    private void ask(String where) {
        int kind = dice.nextInt(10);
        int a = number(0, 11);
        int b = number(0, 7);
        int key = number(0, 3);
        switch (kind) {
            case 0 -> hold(where + "door " + a + " " + b, () -> gate.door(a, b) ? 1 : 0, () -> model.door(a, b) ? 1 : 0);
            case 1 -> hold(where + "use " + key, () -> gate.use(key) ? 1 : 0, () -> model.use(key) ? 1 : 0);
            case 2 -> hold(where + "chain " + a, () -> gate.chain(a), () -> model.chain(a));
            case 3 -> hold(where + "ending " + b, () -> gate.ending(b), () -> model.ending(b));
            case 4 -> hold(where + "sign " + a + " " + b, () -> gate.sign(a, b), () -> model.sign(a, b));
            case 5 -> hold(where + "keyOf " + key + " " + b % 3,
                () -> gate.keyOf(key, b % 3), () -> model.keyOf(key, b % 3));
            case 6, 7 -> hold(where + "taintedAnew " + a,
                () -> gate.taintedAnew(a) ? 1 : 0, () -> model.taintedAnew(a) ? 1 : 0);
            default -> hold(where + "of " + a + " " + b, () -> gate.of(a, b), () -> model.of(a, b));
        }
    }

    /** Far behind the promised calls the answers are free, but no call may throw what the document does not name. */
    private static void strangeArgumentsForLong() {
        VouchGate x = new VouchGate();
        Random dice = new Random(77);
        for (int call = 0; call < 200000; call++) {
            int a = strange(dice, 12);
            int b = strange(dice, 70);
            int c = strange(dice, 70);
            String got = Check.outcome(() -> any(x, dice.nextInt(16), a, b, c));
            boolean named = !got.startsWith("throws.") || got.equals("throws.IndexOutOfBoundsException")
                || got.equals("throws.IllegalArgumentException") || got.equals("throws.IllegalStateException");
            Check.yes("strange call " + a + " " + b + " " + c + " " + got, named);
        }
    }

    private static int strange(Random dice, int bound) {
        return dice.nextInt(4) == 0 ? STRANGE[dice.nextInt(STRANGE.length)] : dice.nextInt(bound);
    }

    private static long any(VouchGate x, int kind, int a, int b, int c) {
        switch (kind) {
            case 0: return Check.setWord(x, a, b);
            case 1: return x.login(a, 11 * a, c % 10);
            case 2: return x.pass(b);
            case 3: return x.vouch(a, b % 12, c);
            case 4: return x.end(a);
            case 5: return x.lose(a, b);
            case 6: return x.issue(a);
            case 7: return x.door(a, b) ? 1 : 0;
            case 8: return x.share(a, b, c);
            case 9: return x.use(a) ? 1 : 0;
            case 10: return x.of(a, b);
            case 11: return x.taintedAnew(a) ? 1 : 0;
            case 12: return x.chain(a);
            case 13: return x.ending(b);
            case 14: return x.sign(a, b);
            default: return x.keyOf(a, b);
        }
    }
}
