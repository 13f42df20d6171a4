/** Promises 3 (begin), 10 (transfer), 12 (messages), 13 (message). */
public final class MessagesTest {
    private static final Check check = new Check();

    /** "Messages 0 and 1 for a transfer of some amount .. : the first one's number." */
    static void promise3Begin() {
        Run w = Steps.world(100, 20, 0);
        check.due("begin(0, 1, 1)", w.begin(0, 1, 1), 0);
        check.due("begin(2, 1, 1000000)", w.begin(2, 1, 1000000), 2);
        check.due("messages()", w.messages(), 4);
        check.due("message 0", Steps.messageOf(w, 0), "0 0 1 1 1 0 0");
        check.due("message 1", Steps.messageOf(w, 1), "0 1 1 0 1 1 1");
        check.due("message 2", Steps.messageOf(w, 2), "2 0 1 1 1000000 0 2");
        check.due("message 3", Steps.messageOf(w, 3), "2 1 1 0 1000000 1 1");
    }

    /** "With the serials that both have now." */
    static void promise3SerialsOfNow() {
        Run w = Steps.world(100, 20);
        w.begin(0, 1, 1);
        w.deliver(0);
        w.deliver(1);
        w.abort(1);
        check.due("begin(1, 0, 5)", w.begin(1, 0, 5), 3);
        check.due("PAY has the payee's serial of now", Steps.messageOf(w, 3), "1 0 0 2 5 0 1");
        check.due("EARN has the payer's serial of now", Steps.messageOf(w, 4), "1 3 0 0 5 1 0");
        w.abort(0);
        check.due("PAY still has that one", Steps.messageOf(w, 3), "1 0 0 2 5 0 1");
    }

    /** It only sends: whatever both do, and however little the payer has. */
    static void promise3NothingElseChanges() {
        for (int state = 0; state <= 3; state++) {
            Run w = Steps.world(5, 100);
            Steps.bring(w, state);
            String payer = Steps.toldOf(w, 0) + ", " + Steps.transferOf(w, 0);
            String payee = Steps.toldOf(w, 1) + ", " + Steps.transferOf(w, 1);
            check.due("begin(0, 1, 1000000)", w.begin(0, 1, 1000000), w.messages() - 2);
            check.due("the payer", Steps.toldOf(w, 0) + ", " + Steps.transferOf(w, 0), payer);
            check.due("the payee", Steps.toldOf(w, 1) + ", " + Steps.transferOf(w, 1), payee);
        }
    }

    static void promise3NoSuchPurse() {
        Run w = Steps.world(100, 20, 3);
        check.bounds("begin(p, 1, 1)", w, 0, 2, Steps.BOUNDS, p -> w.begin(p, 1, 1));
        check.bounds("begin(1, p, 1)", w, 0, 2, Steps.BOUNDS, p -> w.begin(1, p, 1));
    }

    /** "IllegalArgument: the same purse." */
    static void promise3TheSamePurse() {
        Run w = Steps.world(100, 20, 3);
        for (int p = 0; p < 3; p++) {
            int purse = p;
            check.refused("begin(" + p + ", " + p + ", 5)", w, Steps.ARGUMENT, () -> w.begin(purse, purse, 5));
        }
        check.due("begin(0, 1, 5)", w.begin(0, 1, 5), 0);
        check.due("begin(1, 0, 5)", w.begin(1, 0, 5), 2);
    }

    /** "Or the amount is not 1 .. 1000000." */
    static void promise3Amount() {
        Run w = Steps.world(100, 20);
        check.bounds("begin(0, 1, amount)", w, 1, 1000000, Steps.ARGUMENT, amount -> w.begin(0, 1, amount));
        check.due("the least amount", w.message(0, 4), 1);
        check.due("the greatest amount", w.message(2, 4), 1000000);
        check.due("messages() after the refused ones", w.messages(), 4);
    }

    /** "Of several that a call names, the first one." */
    static void promise3WhichComesFirst() {
        Run w = Steps.world(100, 20);
        check.refused("begin(2, 2, 5)", w, Steps.BOUNDS, () -> w.begin(2, 2, 5));
        check.refused("begin(-1, 0, 0)", w, Steps.BOUNDS, () -> w.begin(-1, 0, 0));
        check.refused("begin(0, 2, 1000001)", w, Steps.BOUNDS, () -> w.begin(0, 2, 1000001));
        check.refused("begin(0, 0, 0)", w, Steps.ARGUMENT, () -> w.begin(0, 0, 0));
    }

    static void promise10Transfer() {
        Run w = Steps.world(100, 20, 0);
        w.begin(0, 1, 7);
        w.begin(2, 0, 9);
        w.deliver(3);
        check.due("as PAYEE", Steps.transferOf(w, 0), "2 1 0 1 9");
        w.deliver(0);
        check.due("as PAYER", Steps.transferOf(w, 0), "0 3 1 1 7");
        w.abort(0);
        Steps.go(w, 0, 1, 7, 3);
        check.due("as PAID", Steps.transferOf(w, 0), "0 5 1 1 7");
    }

    /** "NONE when it is idle": a new one, and one that was each of the others before. */
    static void promise10NoneWhenIdle() {
        for (int state = 0; state <= 3; state++) {
            Run w = Steps.world(100, 100);
            Steps.bring(w, state);
            check.due("idle at state " + state, Steps.transferOf(w, 0).equals(Steps.NO_TRANSFER), state == Steps.IDLE);
            w.abort(0);
            check.due("idle after state " + state, Steps.transferOf(w, 0), Steps.NO_TRANSFER);
        }
        Run w = Steps.world(100, 100);
        Steps.go(w, 0, 1, 5, 4);
        check.due("the payee that has the value", Steps.transferOf(w, 1), Steps.NO_TRANSFER);
        check.due("the payer that waits for thanks", Steps.transferOf(w, 0), "0 1 1 1 5");
        w.deliver(4);
        check.due("the payer that was thanked", Steps.transferOf(w, 0), Steps.NO_TRANSFER);
    }

    static void promise10NoSuchPurse() {
        Run w = Steps.world(100, 20, 0);
        check.bounds("transfer(p, 0)", w, 0, 2, Steps.BOUNDS, p -> w.transfer(p, 0));
    }

    /** "IllegalArgument: what is none of these": also when the purse is idle. */
    static void promise10What() {
        for (int state = 0; state <= 3; state++) {
            Run w = Steps.world(100, 100);
            Steps.bring(w, state);
            check.bounds("transfer(0, what)", w, 0, 4, Steps.ARGUMENT, what -> w.transfer(0, what));
        }
    }

    static void promise10WhichComesFirst() {
        Run w = Steps.world(100, 20);
        check.refused("transfer(2, 5)", w, Steps.BOUNDS, () -> w.transfer(2, 5));
        check.refused("transfer(-1, -1)", w, Steps.BOUNDS, () -> w.transfer(-1, -1));
    }

    static void promise12Messages() {
        Run w = Steps.world(100, 20);
        check.due("messages()", w.messages(), 0);
        w.begin(0, 1, 5);
        check.due("messages() after begin", w.messages(), 2);
        int[] counts = {2, 3, 4, 5, 5};
        for (int i = 0; i < counts.length; i++) {
            w.deliver(i);
            check.due("messages() after message " + i, w.messages(), counts[i]);
        }
        Steps.lose(w, 0, 1, 5);
        check.due("messages() after a lost transfer", w.messages(), 9);
        w.readLog(0);
        check.due("messages() after readLog", w.messages(), 10);
        w.deliver(9);
        check.due("messages() after RECORD", w.messages(), 10);
        w.authorise(0);
        check.due("messages() after authorise", w.messages(), 11);
        w.deliver(10);
        check.due("messages() after CLEAR", w.messages(), 11);
    }

    /** "For messages 0 the payer's serial, for 1 the payee's is 0; for 6 NONE is told for 0 to 4; for 5 the transfer's." */
    static void promise13EachKind() {
        Run w = allKinds();
        check.due("PAY", Steps.messageOf(w, 0), "1 0 2 1 5 0 1");
        check.due("EARN", Steps.messageOf(w, 1), "1 1 2 0 5 1 2");
        check.due("ASK", Steps.messageOf(w, 2), "1 1 2 1 5 2 1");
        check.due("VALUE", Steps.messageOf(w, 3), "1 1 2 1 5 3 2");
        check.due("THANKS", Steps.messageOf(w, 4), "1 1 2 1 5 4 1");
        check.due("RECORD", Steps.messageOf(w, 5), "1 1 2 1 5 5 -1");
        check.due("CLEAR", Steps.messageOf(w, 6), "-1 -1 -1 -1 -1 6 1");
    }

    /** Messages 0 to 6 are of kinds 0 to 6. */
    private static Run allKinds() {
        Run w = Steps.world(100, 20, 7);
        Steps.go(w, 1, 2, 5, 4);
        w.abort(1);
        Steps.tell(w, 1);
        w.authorise(1);
        return w;
    }

    static void promise13NoSuchMessage() {
        Run w = allKinds();
        check.bounds("message(i, 0)", w, 0, 6, Steps.BOUNDS, i -> w.message(i, 0));
        check.bounds("message(i, 6)", w, 0, 6, Steps.BOUNDS, i -> w.message(i, 6));
    }

    /** "IllegalArgument: what is none of these": for every kind. */
    static void promise13What() {
        Run w = allKinds();
        for (int kind = 0; kind <= 6; kind++) {
            int i = kind;
            check.bounds("message(" + i + ", what)", w, 0, 6, Steps.ARGUMENT, what -> w.message(i, what));
        }
    }

    static void promise13WhichComesFirst() {
        Run w = allKinds();
        check.refused("message(7, 7)", w, Steps.BOUNDS, () -> w.message(7, 7));
        check.refused("message(-1, -1)", w, Steps.BOUNDS, () -> w.message(-1, -1));
    }

    public static void main(String[] args) {
        check.runPromises(MessagesTest.class);
    }
}
