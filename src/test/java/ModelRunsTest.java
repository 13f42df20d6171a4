import java.util.Random;
import java.util.function.LongSupplier;

/** Long runs of many calls, the same ones every time, on the program and on the model: all promises together. */
public final class ModelRunsTest {
    private static final int RUNS = 400;
    private static final int CALLS = Run.MOST_CALLS;
    private static final Check check = new Check();

    private final Random random;
    private final Run world = new Run();
    private final PurseModel model = new PurseModel();
    /** How likely each kind of call is, so that some runs fill the messages, others the archive. */
    private final int[] weights;
    private final int mostPurses;
    private final int run;
    private long money = 0;

    private ModelRunsTest(int run) {
        this.run = run;
        random = new Random(run);
        int[][] tastes = {
            {40, 240, 25, 25, 20, 20, 60},
            {15, 300, 20, 50, 40, 15, 60},
            {250, 120, 10, 15, 10, 5, 60},
            {60, 200, 60, 40, 40, 40, 60},
        };
        weights = tastes[run % tastes.length];
        mostPurses = run % 7 == 0 ? 14 : 2 + run % 3;
    }

    private static String answer(LongSupplier call) {
        try {
            return Long.toString(call.getAsLong());
        } catch (RuntimeException e) {
            return e.getClass().getName();
        }
    }

    private String both(String call, LongSupplier program, LongSupplier due) {
        String got = answer(program);
        check.due("run " + run + ": " + call, got, answer(due));
        return got;
    }

    /** A number below a bound for the most part, and at times one at its edge or outside. */
    private int below(int bound) {
        int odd = random.nextInt(60);
        if (odd == 0) {
            return -1;
        }
        if (odd == 1) {
            return bound;
        }
        return bound <= 0 ? 0 : random.nextInt(bound);
    }

    private int messageNumber() {
        int count = world.messages();
        // The newest messages bring transfers further; the old ones are those that come again.
        return random.nextInt(3) > 0 && count > 6 ? count - 1 - random.nextInt(6) : below(count);
    }

    private int amount() {
        int[] some = {1, 2, 7, 30, 1000000, 0, 1000001};
        return random.nextInt(4) > 0 ? 1 + random.nextInt(9) : some[random.nextInt(some.length)];
    }

    private void makePurse() {
        int[] some = {0, 1, 50, 100, 1000, 1000000000, -1, 1000000001};
        int balance = some[random.nextInt(some.length)];
        int before = world.purses();
        both("purse(" + balance + ")", () -> world.purse(balance), () -> model.purse(balance));
        if (world.purses() > before) {
            money += balance;
        }
    }

    private void act() {
        int purse = below(world.purses());
        int other = below(world.purses());
        int i = messageNumber();
        int k = below(world.entries());
        int amount = amount();
        switch (chosen()) {
            case 0:
                both("begin(" + purse + ", " + other + ", " + amount + ")",
                        () -> world.begin(purse, other, amount), () -> model.begin(purse, other, amount));
                break;
            case 1:
                both("deliver(" + i + ")", () -> world.deliver(i) ? 1 : 0, () -> model.deliver(i));
                break;
            case 2:
                both("abort(" + purse + ")", () -> world.abort(purse), () -> model.abort(purse));
                break;
            case 3:
                both("readLog(" + purse + ")", () -> world.readLog(purse), () -> model.readLog(purse));
                break;
            case 4:
                both("authorise(" + purse + ")", () -> world.authorise(purse), () -> model.authorise(purse));
                break;
            case 5:
                both("refund(" + k + ")", () -> world.refund(k), () -> model.refund(k));
                break;
            default:
                ask(purse, i, k);
                break;
        }
    }

    private int chosen() {
        int sum = 0;
        for (int weight : weights) {
            sum += weight;
        }
        int left = random.nextInt(sum);
        for (int i = 0; i < weights.length; i++) {
            left -= weights[i];
            if (left < 0) {
                return i;
            }
        }
        return weights.length;
    }

    private void ask(int purse, int i, int k) {
        int what = random.nextInt(9) - 1;
        int place = random.nextInt(7) - 1;
        both("told(" + purse + ", " + what + ")", () -> world.told(purse, what), () -> model.told(purse, what));
        both("transfer(" + purse + ", " + what + ")",
                () -> world.transfer(purse, what), () -> model.transfer(purse, what));
        both("log(" + purse + ", " + place + ", " + what + ")",
                () -> world.log(purse, place, what), () -> model.log(purse, place, what));
        both("message(" + i + ", " + what + ")", () -> world.message(i, what), () -> model.message(i, what));
        both("entry(" + k + ", " + what + ")", () -> world.entry(k, what), () -> model.entry(k, what));
    }

    private void counts() {
        both("purses()", world::purses, model.owners::size);
        both("messages()", world::messages, model.sent::size);
        both("entries()", world::entries, model.archive::size);
        both("balances()", world::balances, model::balances);
        both("pending()", world::pending, model::pending);
        // What the document begins with: nothing comes from nowhere, and what has gone is on its way.
        check.due("run " + run + ": balances() + pending()", world.balances() + world.pending(), money);
    }

    private void go() {
        makePurse();
        makePurse();
        for (int call = 2; call < CALLS; call++) {
            if (world.purses() < 2 || (random.nextInt(40) == 0 && world.purses() < mostPurses)) {
                makePurse();
            } else {
                act();
            }
            counts();
        }
        for (int p = 0; p < world.purses(); p++) {
            int purse = p;
            for (int w = 0; w <= 4; w++) {
                int what = w;
                both("told", () -> world.told(purse, what), () -> model.told(purse, what));
                both("transfer", () -> world.transfer(purse, what), () -> model.transfer(purse, what));
                for (int j = 0; j <= 5; j++) {
                    int place = j;
                    both("log", () -> world.log(purse, place, what), () -> model.log(purse, place, what));
                }
            }
        }
    }

    public static void main(String[] args) {
        for (int run = 0; run < RUNS; run++) {
            new ModelRunsTest(run).go();
        }
        check.end();
    }
}
