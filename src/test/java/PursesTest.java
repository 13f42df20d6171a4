/** Promises 1 (a new object), 2 (purse), 9 (told), 16 (balances), 18 (purses). */
public final class PursesTest {
    private static final Check check = new Check();

    private static void promise1NewObject() {
        PurseWorld w = new PurseWorld();
        check.due("purses()", w.purses(), 0);
        check.due("messages()", w.messages(), 0);
        check.due("entries()", w.entries(), 0);
        check.due("balances()", w.balances(), 0L);
        check.due("pending()", w.pending(), 0L);
        check.refused("told(0, 0)", w, Steps.BOUNDS, () -> w.told(0, 0));
        PurseWorld other = Steps.world(5);
        check.due("purses() beside another object", w.purses(), 0);
        check.due("purses() of that one", other.purses(), 1);
    }

    private static void promise2Purse() {
        PurseWorld w = new PurseWorld();
        check.due("purse(0)", w.purse(0), 0);
        check.due("purse(1000000000)", w.purse(1000000000), 1);
        check.due("its balance", w.told(1, 0), 1000000000);
        check.due("a new purse", Steps.toldOf(w, 0), "0 1 0 0");
        check.due("its transfer", Steps.transferOf(w, 0), "-1 -1 -1 -1 -1");
        for (int balance : new int[] {-1, 1000000001, Integer.MIN_VALUE, Integer.MAX_VALUE}) {
            check.refused("purse(" + balance + ")", w, Steps.ARGUMENT, () -> w.purse(balance));
        }
        check.due("the purse after the refused ones", w.purse(7), 2);
    }

    private static void promise2TwelveAtMost() {
        PurseWorld w = new PurseWorld();
        for (int i = 0; i < 12; i++) {
            check.due("purse " + i, w.purse(i), i);
        }
        check.refused("the thirteenth purse", w, Steps.UNSUPPORTED, () -> w.purse(1));
        check.refused("the thirteenth with a wrong balance", w, Steps.ARGUMENT, () -> w.purse(-1));
        check.due("the last one's balance", w.told(11, 0), 11);
    }

    private static void promise9Told() {
        PurseWorld w = Steps.world(100, 3);
        Steps.lose(w, 0, 1, 30);
        check.due("the payer after one lost transfer", Steps.toldOf(w, 0), "70 3 0 1");
        check.due("the payee after it", Steps.toldOf(w, 1), "3 3 0 1");
        w.deliver(0);
        check.due("the payer when PAY comes again", Steps.toldOf(w, 0), "70 4 1 1");
        for (int what : new int[] {-1, 4, 5, Integer.MAX_VALUE, Integer.MIN_VALUE}) {
            check.refused("told(0, " + what + ")", w, Steps.ARGUMENT, () -> w.told(0, what));
        }
        for (int purse : new int[] {-1, 2, Integer.MAX_VALUE, Integer.MIN_VALUE}) {
            check.refused("told(" + purse + ", 0)", w, Steps.BOUNDS, () -> w.told(purse, 0));
            check.refused("told(" + purse + ", 9)", w, Steps.BOUNDS, () -> w.told(purse, 9));
        }
    }

    private static void promise16Balances() {
        PurseWorld w = new PurseWorld();
        for (int i = 1; i <= 12; i++) {
            w.purse(1000000000);
            check.due("balances() of " + i, w.balances(), i * 1000000000L);
        }
        PurseWorld v = Steps.world(100, 20);
        int first = Steps.go(v, 0, 1, 30, 2);
        check.due("balances() before anything is paid", v.balances(), 120L);
        v.deliver(first + 2);
        check.due("balances() while the value is on its way", v.balances(), 90L);
        v.deliver(first + 3);
        check.due("balances() when it has come", v.balances(), 120L);
    }

    private static void promise18Purses() {
        PurseWorld w = new PurseWorld();
        for (int i = 0; i < 12; i++) {
            check.due("purses()", w.purses(), i);
            w.purse(0);
        }
        check.due("purses()", w.purses(), 12);
        check.refused("one more", w, Steps.UNSUPPORTED, () -> w.purse(0));
        check.due("purses() after a refused one", w.purses(), 12);
    }

    public static void main(String[] args) {
        promise1NewObject();
        promise2Purse();
        promise2TwelveAtMost();
        promise9Told();
        promise16Balances();
        promise18Purses();
        check.end();
    }
}
