/** Promises 1 (a new object), 2 (purse), 9 (told), 16 (balances), 18 (purses). */
public final class PursesTest {
    private static final Check check = new Check();

    /** "No purses." */
    static void promise1NoPurses() {
        Run w = new Run();
        check.due("purses()", w.purses(), 0);
        check.due("balances()", w.balances(), 0L);
        check.bounds("told(p, 0)", w, 0, -1, Steps.BOUNDS, p -> w.told(p, 0));
        check.bounds("transfer(p, 0)", w, 0, -1, Steps.BOUNDS, p -> w.transfer(p, 0));
        check.bounds("log(p, 0, 0)", w, 0, -1, Steps.BOUNDS, p -> w.log(p, 0, 0));
        check.bounds("abort(p)", w, 0, -1, Steps.BOUNDS, w::abort);
        check.bounds("readLog(p)", w, 0, -1, Steps.BOUNDS, w::readLog);
        check.bounds("authorise(p)", w, 0, -1, Steps.BOUNDS, w::authorise);
        check.bounds("begin(p, p + 1, 1)", w, 0, -1, Steps.BOUNDS, p -> w.begin(p, p + 1, 1));
    }

    static void promise1NothingElse() {
        Run w = new Run();
        check.due("messages()", w.messages(), 0);
        check.due("entries()", w.entries(), 0);
        check.due("pending()", w.pending(), 0L);
        check.bounds("deliver(i)", w, 0, -1, Steps.BOUNDS, w::deliver);
        check.bounds("message(i, 0)", w, 0, -1, Steps.BOUNDS, i -> w.message(i, 0));
        check.bounds("refund(k)", w, 0, -1, Steps.BOUNDS, w::refund);
        check.bounds("entry(k, 0)", w, 0, -1, Steps.BOUNDS, k -> w.entry(k, 0));
    }

    static void promise1ObjectsAreApart() {
        Run w = Steps.world(100, 20);
        Steps.lose(w, 0, 1, 30);
        Steps.tell(w, 0);
        Run other = new Run();
        check.due("all that a new object tells beside another", Snapshot.of(other), Snapshot.of(new Run()));
        check.due("its first purse", other.purse(5), 0);
        check.due("purses() of the other one", w.purses(), 2);
    }

    /** "A new purse: its number", and of the Terms "a SERIAL, at first 1". */
    static void promise2Purse() {
        Run w = new Run();
        check.due("purse(0)", w.purse(0), 0);
        check.due("purse(9)", w.purse(9), 1);
        check.due("the first one", Steps.toldOf(w, 0), "0 1 0 0");
        check.due("the second one", Steps.toldOf(w, 1), "9 1 0 0");
        check.due("its transfer", Steps.transferOf(w, 1), Steps.NO_TRANSFER);
    }

    /** "IllegalArgument: the balance is not 0 .. 1000000000." */
    static void promise2Balance() {
        Run w = new Run();
        check.bounds("purse(balance)", w, 0, 1000000000, Steps.ARGUMENT, w::purse);
        check.due("the least balance", w.told(0, 0), 0);
        check.due("the greatest balance", w.told(1, 0), 1000000000);
        check.due("the number after the refused ones", w.purse(7), 2);
    }

    /** "PURSES have numbers 0, 1, .., 12 at most": the twelfth is made, and is one like the others. */
    static void promise2TheTwelfthPurse() {
        Run w = new Run();
        for (int i = 0; i < 11; i++) {
            w.purse(i);
        }
        check.due("the twelfth purse", w.purse(11), 11);
        check.due("all that it tells", Steps.toldOf(w, 11), "11 1 0 0");
        Steps.go(w, 11, 10, 11, 5);
        check.due("it can pay", Steps.toldOf(w, 11), "0 2 0 0");
        check.due("and be paid", w.deliver(w.begin(0, 11, 1) + 1), true);
    }

    /** "UnsupportedOperation: there would be more purses .. than there may be." */
    static void promise2NoThirteenthPurse() {
        Run w = Steps.world(new int[12]);
        check.refused("the thirteenth purse", w, Steps.UNSUPPORTED, () -> w.purse(0));
        check.refused("the thirteenth again", w, Steps.UNSUPPORTED, () -> w.purse(1000000000));
    }

    /** "Of several that a call names, the first one": the balance comes before the number of purses. */
    static void promise2WhichComesFirst() {
        Run w = Steps.world(new int[12]);
        check.refused("the thirteenth with balance -1", w, Steps.ARGUMENT, () -> w.purse(-1));
        check.refused("the thirteenth with balance 1000000001", w, Steps.ARGUMENT, () -> w.purse(1000000001));
    }

    static void promise9Told() {
        Run w = Steps.world(100, 3);
        Steps.lose(w, 0, 1, 30);
        check.due("the payer after one lost transfer", Steps.toldOf(w, 0), "70 3 0 1");
        check.due("the payee after it", Steps.toldOf(w, 1), "3 3 0 1");
        w.deliver(0);
        check.due("the payer when PAY comes again", Steps.toldOf(w, 0), "70 4 1 1");
    }

    /** "STATE: 0 IDLE, 1 PAYER, 2 PAYEE, 3 PAID." */
    static void promise9EachState() {
        for (int state = 0; state <= 3; state++) {
            Run w = Steps.world(100, 100);
            Steps.bring(w, state);
            check.due("the state", w.told(0, 2), state);
        }
    }

    /** "How many are in its log": from none to five. */
    static void promise9EachLengthOfTheLog() {
        Run w = Steps.world(100, 100);
        for (int count = 0; count < 5; count++) {
            check.due("the payer's", w.told(0, 3), count);
            check.due("the payee's", w.told(1, 3), count);
            Steps.lose(w, 0, 1, 1);
        }
        Steps.go(w, 0, 1, 1, 2);
        check.due("the payer's when no more may come", w.told(0, 3), 5);
        check.due("the payee's when no more may come", w.told(1, 3), 5);
    }

    static void promise9NoSuchPurse() {
        Run w = Steps.world(100, 3);
        check.bounds("told(p, 0)", w, 0, 1, Steps.BOUNDS, p -> w.told(p, 0));
    }

    /** "IllegalArgument: what is none of these." */
    static void promise9What() {
        Run w = Steps.world(100, 3);
        check.bounds("told(1, what)", w, 0, 3, Steps.ARGUMENT, what -> w.told(1, what));
    }

    static void promise9WhichComesFirst() {
        Run w = Steps.world(100, 3);
        check.refused("told(2, 4)", w, Steps.BOUNDS, () -> w.told(2, 4));
        check.refused("told(-1, -1)", w, Steps.BOUNDS, () -> w.told(-1, -1));
    }

    static void promise16Balances() {
        Run w = Steps.world(100, 20);
        int first = Steps.go(w, 0, 1, 30, 2);
        check.due("balances() before anything is paid", w.balances(), 120L);
        w.deliver(first + 2);
        check.due("balances() while the value is on its way", w.balances(), 90L);
        w.deliver(first + 3);
        check.due("balances() when it has come", w.balances(), 120L);
    }

    /** "The sum of all balances": twelve of the greatest are far more than an int holds. */
    static void promise16BeyondAnInt() {
        Run w = new Run();
        for (int i = 1; i <= 12; i++) {
            w.purse(1000000000);
            check.due("balances() of " + i, w.balances(), i * 1000000000L);
        }
    }

    /** A new purse has 1000000000 at most; what is paid to it later has no such bound. */
    static void promise16ABalanceAboveTheGreatestNewOne() {
        Run w = Steps.world(1000000, 1000000000);
        Steps.go(w, 0, 1, 1000000, 5);
        check.due("the payee's balance", w.told(1, 0), 1001000000);
        check.due("the payer's balance", w.told(0, 0), 0);
        check.due("balances()", w.balances(), 1001000000L);
    }

    static void promise18Purses() {
        Run w = new Run();
        for (int i = 0; i < 12; i++) {
            check.due("purses()", w.purses(), i);
            w.purse(0);
        }
        check.due("purses() of twelve", w.purses(), 12);
        check.refused("one more", w, Steps.UNSUPPORTED, () -> w.purse(0));
        check.due("purses() after a refused one", w.purses(), 12);
    }

    public static void main(String[] args) {
        check.runPromises(PursesTest.class);
    }
}
