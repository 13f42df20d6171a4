/** Promise 17 (pending): what each side may be, and that a transfer counts once. */
public final class PendingTest {
    private static final Check check = new Check();

    /** Each side goes from doing it over its log to the archive, in every order; it is pending all the while, and once. */
    static void promise17EverySideAtEveryStep() {
        for (int payerStep = 0; payerStep <= 3; payerStep++) {
            for (int payeeStep = 0; payeeStep <= 3; payeeStep++) {
                Run w = Steps.world(100, 20);
                Steps.go(w, 0, 1, 30, 3);
                further(w, 0, payerStep);
                further(w, 1, payeeStep);
                check.due("pending() at steps " + payerStep + ", " + payeeStep, w.pending(), 30L);
                check.due("balances() then", w.balances(), 90L);
            }
        }
    }

    /** 0: it still does it; 1: in its log; 2: in its log and in the archive; 3: in the archive alone. */
    private static void further(Run w, int purse, int step) {
        if (step >= 1) {
            w.abort(purse);
        }
        if (step >= 2) {
            Steps.tell(w, purse);
        }
        if (step >= 3) {
            w.deliver(w.authorise(purse));
        }
    }

    static void promise17OfNothing() {
        check.due("pending() of no purses", new Run().pending(), 0L);
        Run w = Steps.world(100, 20);
        check.due("pending() of idle ones", w.pending(), 0L);
        w.begin(0, 1, 30);
        check.due("pending() of what has only begun", w.pending(), 0L);
    }

    /** "If its payer is PAID with it": a PAYER has not paid yet. */
    static void promise17ThePayerIsPaid() {
        Run w = Steps.world(100, 20);
        int first = Steps.go(w, 0, 1, 30, 2);
        check.due("pending() when the payer waits to be asked", w.pending(), 0L);
        w.deliver(first + 2);
        check.due("pending() when it has paid", w.pending(), 30L);
    }

    /** A payer that gives up before it is asked keeps nothing, so the payee's side alone is not enough, wherever it is. */
    static void promise17ThePayeesSideAlone() {
        for (int step = 0; step <= 3; step++) {
            Run w = Steps.world(100, 20);
            Steps.go(w, 0, 1, 30, 2);
            w.abort(0);
            further(w, 1, step);
            check.due("pending() with the payee at step " + step, w.pending(), 0L);
        }
    }

    /** "And its payee is PAYEE with it": when the value has come, it is not, and the payer's side is not enough. */
    static void promise17ThePayersSideAlone() {
        for (int step = 0; step <= 3; step++) {
            Run w = Steps.world(100, 20);
            Steps.go(w, 0, 1, 30, 3);
            check.due("pending() before the value comes", w.pending(), 30L);
            w.deliver(3);
            further(w, 0, step);
            check.due("pending() with the payer at step " + step, w.pending(), 0L);
        }
    }

    /** "And it is not refunded": by either entry. */
    static void promise17NotRefunded() {
        for (int by = 0; by <= 1; by++) {
            Run w = Steps.world(100, 20);
            Steps.lose(w, 0, 1, 30);
            Steps.tell(w, 0);
            Steps.tell(w, 1);
            check.due("pending() before refund(" + by + ")", w.pending(), 30L);
            w.refund(by);
            check.due("pending() after it", w.pending(), 0L);
            w.deliver(w.authorise(0));
            w.deliver(w.authorise(1));
            check.due("pending() with empty logs", w.pending(), 0L);
        }
    }

    static void promise17OneOfTwoRefunded() {
        Run w = Steps.world(100, 20);
        Steps.lose(w, 0, 1, 30);
        Steps.lose(w, 0, 1, 4);
        Steps.tell(w, 0);
        Steps.tell(w, 1);
        check.due("pending()", w.pending(), 34L);
        w.refund(0);
        check.due("pending() after a refund", w.pending(), 4L);
        w.refund(1);
        check.due("pending() after both", w.pending(), 0L);
    }

    /** "The sum of the amounts of all pending transfers." */
    static void promise17Several() {
        Run w = Steps.world(100, 20, 1000000, 0);
        Steps.lose(w, 0, 1, 30);
        Steps.lose(w, 1, 0, 4);
        int big = Steps.go(w, 2, 3, 1000000, 3);
        check.due("pending()", w.pending(), 1000034L);
        check.due("balances()", w.balances(), 86L);
        Steps.tell(w, 1);
        check.due("pending() after one purse told", w.pending(), 1000034L);
        w.deliver(big + 3);
        check.due("pending() when the value is there", w.pending(), 34L);
    }

    /** Full logs on both sides, and one more transfer on its way elsewhere. */
    static void promise17OfFullLogs() {
        Run w = Steps.world(10000000, 0, 1000000, 0);
        Steps.lose(w, 0, 1, 1000000, 5);
        Steps.go(w, 2, 3, 1000000, 3);
        check.due("pending()", w.pending(), 6000000L);
        Steps.tell(w, 0);
        w.deliver(w.authorise(0));
        check.due("pending() with one log in the archive", w.pending(), 6000000L);
    }

    /** A payee has a twin of it, alike but for its serial: that one is not pending. */
    static void promise17NotItsTwin() {
        Run w = Steps.world(100, 20);
        w.begin(0, 1, 30);
        w.deliver(1);
        w.deliver(0);
        w.deliver(2);
        w.deliver(1);
        check.due("pending() when the payee has it in its log", w.pending(), 30L);
        w.abort(1);
        Steps.tell(w, 1);
        check.due("pending() when it has told its twin too", w.pending(), 30L);
    }

    /** The payer has paid one, while the payee waits for the other: with another serial, nothing is the same. */
    static void promise17OfSerialsThatDiffer() {
        Run w = Steps.world(100, 20);
        w.begin(0, 1, 30);
        w.deliver(0);
        w.deliver(1);
        w.deliver(2);
        w.deliver(3);
        w.deliver(1);
        check.due("the payer", Steps.transferOf(w, 0), "0 1 1 1 30");
        check.due("the payee", Steps.transferOf(w, 1), "0 1 1 2 30");
        check.due("pending()", w.pending(), 0L);
    }

    public static void main(String[] args) {
        check.runPromises(PendingTest.class);
    }
}
