import java.util.Arrays;
import java.util.Random;

/** All promises: drawn runs of 512 calls, each answer compared with that of the model. */
public final class ModelTest {
    private static final Call[] CALLS = Call.values();
    private static final String SIGNS = "nyvadu0123456789,;; x-";

    private final Random random;
    private final AgreedSlots x = new AgreedSlots();
    private final Model model = new Model();
    private final StringBuilder done = new StringBuilder();
    private boolean wrong;

    private ModelTest(long seed) {
        random = new Random(seed);
    }

    public static void main(String[] args) {
        Due due = new Due("all promises, by the model");
        int runs = args.length > 0 ? Integer.parseInt(args[0]) : 1500;
        int reached = 0;
        int changed = 0;
        for (int seed = 0; seed < runs; seed++) {
            ModelTest run = new ModelTest(seed);
            run.run(seed % 4);
            due.holds("run " + seed, !run.wrong);
            reached = Math.max(reached, run.model.prefix());
            changed = Math.max(changed, run.model.count(8));
            if (run.wrong) {
                break;
            }
        }
        due.is("the greatest prefix of a run", reached, 16);
        due.holds("some run changes the voters often", changed >= 4);
        due.end();
    }

    private void run(int kind) {
        if (kind > 0) {
            both(Call.SET_SECOND, random.nextInt(6) + 1);
        }
        for (int i = 0; i < 511 && !wrong; ) {
            if (kind == 3 && random.nextInt(6) == 0) {
                i += text();
            } else {
                step(kind == 0);
                i++;
            }
            if (random.nextInt(24) == 0) {
                pictures();
            }
        }
        pictures();
    }

    private void step(boolean quiet) {
        int draw = random.nextInt(100);
        int p = random.nextInt(quiet ? 1 : 3);
        int a = random.nextInt(6);
        int near = Math.min(16, model.prefix() + 1 + (quiet ? random.nextInt(7) / 6 : random.nextInt(3)));
        if (random.nextInt(3) > 0) {
            Integer[] voters = model.voters(near).toArray(new Integer[0]);
            a = voters[random.nextInt(voters.length)];
        }
        if (draw < 4) {
            both(Call.SET_UP, a, random.nextInt(4) > 0 ? 1 : 0);
        } else if (draw < (quiet ? 6 : 10)) {
            both(Call.PREPARE, p);
        } else if (draw < 28) {
            both(Call.PROMISE, p, a);
        } else if (draw < 45) {
            both(Call.PROPOSE, p, near, value());
        } else if (draw < 82) {
            both(Call.VOTE, p, near, a);
        } else if (draw < 84) {
            both(Call.TRIM, Math.max(1, model.prefix() - random.nextInt(4)));
        } else if (draw < 87) {
            both(Call.UNDO);
        } else if (draw < 88) {
            both(random.nextInt(3) == 0 ? Call.RESTORE : Call.KEEP);
        } else {
            Call call = CALLS[random.nextInt(CALLS.length)];
            both(call, argument(), argument(), argument(), argument());
        }
    }

    private int value() {
        return random.nextInt(4) == 0 ? 101 + random.nextInt(63) : 1 + random.nextInt(99);
    }

    private int argument() {
        int draw = random.nextInt(20);
        if (draw < 12) {
            return random.nextInt(7);
        }
        if (draw < 16) {
            return random.nextInt(20) - 1;
        }
        if (draw < 18) {
            return random.nextInt(200) - 10;
        }
        return draw < 19 ? random.nextInt() : Steps.HOSTILE[random.nextInt(Steps.HOSTILE.length)];
    }

    /** Types a text, mostly without a fault, and performs it; answers how many calls that took. */
    private int text() {
        String orders = orders();
        both(Call.CLEAR_TEXT);
        for (int i = 0; i < orders.length(); i++) {
            both(Call.TYPE, orders.charAt(i));
        }
        both(Call.PERFORM);
        both(Call.REFUSAL, random.nextInt(3));
        return orders.length() + 3;
    }

    private String orders() {
        StringBuilder all = new StringBuilder();
        int n = 1 + random.nextInt(9);
        int p = random.nextInt(3);
        for (int i = 0; i < n; i++) {
            all.append(i > 0 ? ";" : "").append(order(p));
        }
        while (random.nextInt(4) == 0) {
            int at = random.nextInt(all.length() + 1);
            char sign = SIGNS.charAt(random.nextInt(SIGNS.length()));
            if (at == all.length() || random.nextInt(3) == 0) {
                all.insert(at, sign);
            } else if (random.nextBoolean()) {
                all.setCharAt(at, sign);
            } else {
                all.setLength(Math.max(1, at));
            }
        }
        return all.toString();
    }

    private String order(int p) {
        int slot = random.nextInt(12) == 0 ? 1 + random.nextInt(30) : Math.min(16, model.prefix() + 1);
        int a = random.nextInt(6);
        switch (random.nextInt(8)) {
            case 0:
                return "n" + p;
            case 1:
            case 2:
                return "y" + p + "," + a;
            case 3:
                return "v" + p + "," + slot + "," + value();
            case 4:
            case 5:
                return "a" + p + "," + slot + "," + random.nextInt(4);
            case 6:
                return "u" + a;
            default:
                return "d" + a;
        }
    }

    private void both(Call call, int... numbers) {
        int[] n = Arrays.copyOf(numbers, call.ranges.length);
        if (call == Call.SET_UP) {
            n[1] = n[1] == 1 ? 1 : 0;
        }
        int want = model.call(call, n);
        int got = call.on(x, n);
        done.append(call.form(n)).append(" = ").append(got).append('\n');
        if (got != want && !wrong) {
            wrong = true;
            System.out.println(done + "due is " + want);
        }
    }

    /** Compares all that is told; these calls come on top of the 512, as they change nothing. */
    private void pictures() {
        for (int what = -1; what <= 11; what++) {
            both(Call.COUNT, what);
        }
        for (int what = 0; what <= 2; what++) {
            both(Call.REFUSAL, what);
            for (int a = 0; a < 6; a++) {
                both(Call.ACCEPTOR, a, what);
            }
        }
        for (int p = 0; p < 3; p++) {
            for (int what = 0; what <= 3; what++) {
                both(Call.PROPOSER, p, what);
            }
        }
        for (int slot = 1; slot <= 16; slot++) {
            slotPicture(slot);
        }
    }

    private void slotPicture(int slot) {
        for (int what = 0; what <= 5; what++) {
            both(Call.SLOT, slot, what);
        }
        for (int a = 0; a < 6; a++) {
            both(Call.VOTED, a, slot, 0);
            both(Call.VOTED, a, slot, 1);
            both(Call.COULD, slot, Math.max(1, model.acceptor(a, 1)));
            both(Call.COULD, slot, Math.max(1, model.voted(a, slot, 0)));
        }
        for (int p = 0; p < 3; p++) {
            for (int what = 0; what <= 2; what++) {
                both(Call.PROPOSED, p, slot, what);
            }
            both(Call.COULD, slot, p + 1 + 3 * random.nextInt(6));
        }
    }
}
