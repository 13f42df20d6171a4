import java.util.ArrayList;
import java.util.List;
import java.util.function.ToIntFunction;

/**
 * A world that tests may ask as much as they like. The document promises nothing after an object's 512th call:
 * when one is used up, the calls that may have changed something (the refused ones too) are made again on a new one.
 */
final class Run {
    static final int MOST_CALLS = 512;

    private final List<ToIntFunction<PurseWorld>> changes = new ArrayList<>();
    private PurseWorld world = new PurseWorld();
    private int calls = 0;

    private PurseWorld next() {
        if (calls == MOST_CALLS) {
            replay();
        }
        calls++;
        return world;
    }

    private void replay() {
        if (changes.size() >= MOST_CALLS) {
            throw new AssertionError("this test makes more calls than the document promises anything about");
        }
        world = new PurseWorld();
        for (ToIntFunction<PurseWorld> change : changes) {
            try {
                change.applyAsInt(world);
            } catch (RuntimeException e) {
                // It was refused the first time too, and looked at then.
            }
        }
        calls = changes.size();
    }

    private int change(ToIntFunction<PurseWorld> call) {
        PurseWorld w = next();
        changes.add(call);
        return call.applyAsInt(w);
    }

    int purse(int balance) {
        return change(w -> w.purse(balance));
    }

    int begin(int payer, int payee, int amount) {
        return change(w -> w.begin(payer, payee, amount));
    }

    boolean deliver(int i) {
        return change(w -> w.deliver(i) ? 1 : 0) == 1;
    }

    int abort(int purse) {
        return change(w -> w.abort(purse));
    }

    int readLog(int purse) {
        return change(w -> w.readLog(purse));
    }

    int authorise(int purse) {
        return change(w -> w.authorise(purse));
    }

    int refund(int k) {
        return change(w -> w.refund(k));
    }

    int told(int purse, int what) {
        return next().told(purse, what);
    }

    int transfer(int purse, int what) {
        return next().transfer(purse, what);
    }

    int log(int purse, int i, int what) {
        return next().log(purse, i, what);
    }

    int messages() {
        return next().messages();
    }

    int message(int i, int what) {
        return next().message(i, what);
    }

    int entries() {
        return next().entries();
    }

    int entry(int k, int what) {
        return next().entry(k, what);
    }

    long balances() {
        return next().balances();
    }

    long pending() {
        return next().pending();
    }

    int purses() {
        return next().purses();
    }
}
