/** Promise 17 (pending): what each side may be, and that a transfer counts once. */
public final class PendingTest {
    private static final Check check = new Check();

    /** Each side goes from doing it over its log to the archive, in every order; it is pending all the while. */
    private static void promise17EverySideAtEveryStep() {
        for (int payerStep = 0; payerStep <= 3; payerStep++) {
            for (int payeeStep = 0; payeeStep <= 3; payeeStep++) {
                PurseWorld w = Steps.world(100, 20);
                Steps.go(w, 0, 1, 30, 2);
                check.due("pending() before it is paid", w.pending(), 0L);
                w.deliver(2);
                bring(w, 0, payerStep);
                bring(w, 1, payeeStep);
                check.due("pending() at steps " + payerStep + ", " + payeeStep, w.pending(), 30L);
                check.due("balances() then", w.balances(), 90L);
            }
        }
    }

    /** 0: it still does it; 1: in its log; 2: in its log and in the archive; 3: in the archive alone. */
    private static void bring(PurseWorld w, int purse, int step) {
        if (step >= 1) {
            w.abort(purse);
        }
        if (step >= 2) {
            Steps.tell(w, purse);
        }
        if (step >= 3) {
            w.deliver(w.authorise(purse));
        }
    }

    private static void promise17NotPending() {
        PurseWorld w = Steps.world(100, 20);
        check.due("pending() of nothing", w.pending(), 0L);
        Steps.go(w, 0, 1, 30, 3);
        w.abort(0);
        check.due("pending() when the payer gave up", w.pending(), 30L);
        w.deliver(3);
        check.due("pending() when the value has come", w.pending(), 0L);
        Steps.tell(w, 0);
        check.due("pending() when the payer alone has told", w.pending(), 0L);
        PurseWorld v = Steps.world(100, 20);
        Steps.go(v, 0, 1, 30, 2);
        v.abort(1);
        v.abort(0);
        Steps.tell(v, 1);
        check.due("pending() when the payee alone has told", v.pending(), 0L);
    }

    private static void promise17Refunded() {
        PurseWorld w = Steps.world(100, 20);
        Steps.lose(w, 0, 1, 30);
        Steps.lose(w, 0, 1, 4);
        Steps.tell(w, 0);
        Steps.tell(w, 1);
        check.due("pending()", w.pending(), 34L);
        w.refund(0);
        check.due("pending() after a refund", w.pending(), 4L);
        w.deliver(w.authorise(0));
        w.deliver(w.authorise(1));
        check.due("pending() with empty logs", w.pending(), 4L);
        w.refund(1);
        check.due("pending() after both", w.pending(), 0L);
    }

    private static void promise17Several() {
        PurseWorld w = Steps.world(100, 20, 1000000, 0);
        Steps.lose(w, 0, 1, 30);
        Steps.lose(w, 1, 0, 4);
        int big = Steps.go(w, 2, 3, 1000000, 3);
        check.due("pending()", w.pending(), 1000034L);
        check.due("balances()", w.balances(), 86L);
        Steps.tell(w, 1);
        check.due("pending() after one purse told", w.pending(), 1000034L);
        w.deliver(big + 3);
        check.due("pending() when the value is there", w.pending(), 34L);
    }

    private static void promise17OnlyTheSameTransfer() {
        PurseWorld w = Steps.world(100, 20);
        w.begin(0, 1, 30);
        w.deliver(1);
        w.deliver(0);
        w.deliver(2);
        w.deliver(1);
        check.due("pending() when the payee has it in its log", w.pending(), 30L);
        w.abort(1);
        Steps.tell(w, 1);
        check.due("pending() when it has told its twin too", w.pending(), 30L);
        PurseWorld v = Steps.world(100, 20);
        v.begin(0, 1, 30);
        v.deliver(0);
        v.deliver(0);
        v.deliver(1);
        check.due("ASK with another serial", v.deliver(2), false);
        check.due("pending() of serials that differ", v.pending(), 0L);
    }

    public static void main(String[] args) {
        promise17EverySideAtEveryStep();
        promise17NotPending();
        promise17Refunded();
        promise17Several();
        promise17OnlyTheSameTransfer();
        check.end();
    }
}
