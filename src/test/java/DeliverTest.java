/** Promise 4 (deliver) for messages 0 to 4: when each is taken, when it is not, and what changes by it. */
public final class DeliverTest {
    private static final Check check = new Check();

    private static final int PAY = 0;
    private static final int EARN = 1;
    private static final int ASK = 2;
    private static final int VALUE = 3;
    private static final int THANKS = 4;

    static void promise4WholeTransfer() {
        Run w = Steps.world(100, 20);
        w.begin(0, 1, 30);
        check.due("PAY", w.deliver(PAY), true);
        check.due("the payer", Steps.toldOf(w, 0), "100 2 1 0");
        check.due("messages() after PAY", w.messages(), 2);
        check.due("EARN", w.deliver(EARN), true);
        check.due("the payee", Steps.toldOf(w, 1), "20 2 2 0");
        check.due("ASK", Steps.messageOf(w, ASK), "0 1 1 1 30 2 0");
        check.due("ASK is taken", w.deliver(ASK), true);
        check.due("the payer has paid", Steps.toldOf(w, 0), "70 2 3 0");
        check.due("VALUE", Steps.messageOf(w, VALUE), "0 1 1 1 30 3 1");
        check.due("VALUE is taken", w.deliver(VALUE), true);
        check.due("the payee has it", Steps.toldOf(w, 1), "50 2 0 0");
        check.due("THANKS", Steps.messageOf(w, THANKS), "0 1 1 1 30 4 0");
        check.due("THANKS is taken", w.deliver(THANKS), true);
        check.due("the payer is idle", Steps.toldOf(w, 0), "70 2 0 0");
        check.due("messages()", w.messages(), 5);
    }

    static void promise4NoSuchMessage() {
        Run w = Steps.world(100, 20);
        Steps.go(w, 0, 1, 5, 5);
        check.bounds("deliver(i)", w, 0, 4, Steps.BOUNDS, w::deliver);
    }

    /** "Each of which may come again and again": nobody is debited or credited twice. */
    static void promise4AgainAndAgain() {
        Run w = Steps.world(100, 20);
        Steps.go(w, 0, 1, 30, 2);
        for (int i = ASK; i <= THANKS; i++) {
            check.due("message " + i, w.deliver(i), true);
            String before = Snapshot.of(w);
            check.due("message " + i + " again", w.deliver(i), false);
            check.due("message " + i + " once more", w.deliver(i), false);
            check.due("all that can be told then", Snapshot.of(w), before);
        }
        check.due("PAY again", w.deliver(PAY), true);
        check.due("ASK of the first time", w.deliver(ASK), false);
        check.due("EARN again", w.deliver(EARN), true);
        check.due("VALUE of the first time", w.deliver(VALUE), false);
        check.due("balances()", w.told(0, 0) * 1000 + w.told(1, 0), 70050);
    }

    /** "The purse ends what it does. Then .. it is PAYER, with its own serial in the transfer, which is one more then." */
    static void promise4PayEndsEachState() {
        String[] due = {"100 2 1 0", "100 4 1 0", "100 4 1 1", "95 4 1 1"};
        for (int state = 0; state <= 3; state++) {
            Run w = Steps.world(100, 100, 100);
            int pay = w.begin(0, 2, 9);
            Steps.bring(w, state);
            int before = w.messages();
            check.due("PAY at state " + state, w.deliver(pay), true);
            check.due("the purse then", Steps.toldOf(w, 0), due[state]);
            check.due("its transfer", Steps.transferOf(w, 0), "0 " + (state == 0 ? 1 : 3) + " 2 1 9");
            check.due("messages() stay", w.messages(), before);
        }
    }

    /** "If its log is not full": four are not, five are. */
    static void promise4PayAndTheLog() {
        Run w = Steps.world(100, 100);
        Steps.lose(w, 0, 1, 1, 4);
        int pay = w.begin(0, 1, 1);
        check.due("PAY with four in the log", w.deliver(pay), true);
        check.due("the purse", Steps.toldOf(w, 0), "96 10 1 4");
        w.abort(0);
        Steps.lose(w, 0, 1, 1);
        check.due("five are in the log", Steps.toldOf(w, 0), "95 13 0 5");
        check.due("PAY with five in the log", w.deliver(pay), false);
        check.due("the purse stays", Steps.toldOf(w, 0), "95 13 0 5");
    }

    /** The log is looked at when the purse has ended what it does. */
    static void promise4PayThatFillsTheLogItself() {
        Run w = Steps.world(100, 100);
        Steps.lose(w, 0, 1, 1, 3);
        int pay = w.begin(0, 1, 1);
        Steps.go(w, 0, 1, 1, 3);
        check.due("PAY that brings the fourth to the log", w.deliver(pay), true);
        check.due("the purse", Steps.toldOf(w, 0), "96 10 1 4");
        w.abort(0);
        w.abort(1);
        Steps.go(w, 0, 1, 1, 3);
        check.due("the purse has paid", Steps.toldOf(w, 0), "95 12 3 4");
        check.due("PAY that brings the fifth to the log", w.deliver(pay), false);
        check.due("the purse has ended", Steps.toldOf(w, 0), "95 13 0 5");
        check.due("the fifth", Steps.logOf(w, 0, 4), "0 11 1 9 1");
    }

    /** "And its balance is not below the amount." */
    static void promise4PayAndTheBalance() {
        Run w = Steps.world(10, 0);
        w.begin(0, 1, 11);
        w.begin(0, 1, 10);
        w.begin(1, 0, 1);
        check.due("PAY of one more than the balance", w.deliver(0), false);
        check.due("the purse", Steps.toldOf(w, 0), "10 1 0 0");
        check.due("PAY of the whole balance", w.deliver(2), true);
        check.due("the purse", Steps.toldOf(w, 0), "10 2 1 0");
        check.due("PAY of 1 with a balance of 0", w.deliver(4), false);
        check.due("that purse", Steps.toldOf(w, 1), "0 1 0 0");
    }

    /** A purse that pays all that it has comes to 0. */
    static void promise4PayTheWholeBalance() {
        Run w = Steps.world(1000000, 0);
        Steps.go(w, 0, 1, 1000000, 5);
        check.due("the payer", Steps.toldOf(w, 0), "0 2 0 0");
        check.due("the payee", Steps.toldOf(w, 1), "1000000 2 0 0");
    }

    /** "(If not, the message is not TAKEN, though something ended.)" */
    static void promise4PayNotTakenThoughSomethingEnded() {
        String[] due = {"10 1 0 0", "10 3 0 0", "10 3 0 1", "5 3 0 1"};
        for (int state = 0; state <= 3; state++) {
            Run w = Steps.world(10, 100);
            int tooMuch = w.begin(0, 1, 11);
            Steps.bring(w, state);
            check.due("PAY of too much at state " + state, w.deliver(tooMuch), false);
            check.due("the purse then", Steps.toldOf(w, 0), due[state]);
            check.due("its transfer", Steps.transferOf(w, 0), Steps.NO_TRANSFER);
            check.due("PAY of too much when idle", w.deliver(tooMuch), false);
            check.due("the purse stays", Steps.toldOf(w, 0), due[state]);
        }
    }

    /** "The purse ends what it does. Then .. it is PAYEE, with its own serial .. one more then; it sends message 2." */
    static void promise4EarnEndsEachState() {
        String[] due = {"100 2 2 0", "100 4 2 0", "100 4 2 1", "95 4 2 1"};
        for (int state = 0; state <= 3; state++) {
            Run w = Steps.world(100, 100, 100);
            int earn = w.begin(2, 0, 9) + 1;
            Steps.bring(w, state);
            int before = w.messages();
            String transfer = "2 1 0 " + (state == 0 ? 1 : 3) + " 9";
            check.due("EARN at state " + state, w.deliver(earn), true);
            check.due("the purse then", Steps.toldOf(w, 0), due[state]);
            check.due("its transfer", Steps.transferOf(w, 0), transfer);
            check.due("messages()", w.messages(), before + 1);
            check.due("ASK", Steps.messageOf(w, before), transfer + " 2 2");
        }
    }

    /** "If its log is not full": four are not, five are; no message is sent then. */
    static void promise4EarnAndTheLog() {
        Run w = Steps.world(100, 100);
        Steps.lose(w, 0, 1, 1, 4);
        int earn = w.begin(0, 1, 1) + 1;
        check.due("EARN with four in the log", w.deliver(earn), true);
        check.due("the purse", Steps.toldOf(w, 1), "100 10 2 4");
        w.abort(1);
        int before = w.messages();
        check.due("five are in the log", Steps.toldOf(w, 1), "100 11 0 5");
        check.due("EARN with five in the log", w.deliver(earn), false);
        check.due("the purse stays", Steps.toldOf(w, 1), "100 11 0 5");
        check.due("nothing is sent", w.messages(), before);
    }

    static void promise4EarnThatFillsTheLogItself() {
        Run w = Steps.world(100, 100);
        int earn = w.begin(0, 1, 1) + 1;
        for (int i = 0; i < 5; i++) {
            check.due("EARN with " + i + " in the log", w.deliver(earn), true);
        }
        check.due("the purse", Steps.toldOf(w, 1), "100 10 2 4");
        int before = w.messages();
        check.due("EARN that brings the fifth to the log", w.deliver(earn), false);
        check.due("the purse has ended", Steps.toldOf(w, 1), "100 11 0 5");
        check.due("the fifth", Steps.logOf(w, 1, 4), "0 1 1 9 1");
        check.due("nothing is sent", w.messages(), before);
    }

    /** EARN asks for no balance, neither the payee's nor the payer's. */
    static void promise4EarnWithEmptyPurses() {
        Run w = Steps.world(0, 0);
        w.begin(0, 1, 1000000);
        check.due("EARN", w.deliver(EARN), true);
        check.due("PAY", w.deliver(PAY), false);
        check.due("ASK", w.deliver(ASK), false);
        check.due("the payee waits", w.told(1, 2), Steps.PAYEE);
    }

    /** One log serves both roles: what a purse was to pay and what it was to be paid fill it together. */
    static void promise4TheLogOfBothRoles() {
        Run w = Steps.world(100, 100);
        Steps.lose(w, 0, 1, 1, 3);
        Steps.lose(w, 1, 0, 1, 2);
        int there = w.begin(0, 1, 1);
        check.due("five in each log", w.told(0, 3) * 10 + w.told(1, 3), 55);
        check.due("PAY", w.deliver(there), false);
        check.due("EARN", w.deliver(there + 1), false);
    }

    /** "Taken by a purse that is PAYER": by no other, though it was that one with just this transfer. */
    static void promise4AskNeedsAPayer() {
        for (int state = 0; state <= 3; state++) {
            Run w = Steps.world(100, 100);
            Steps.go(w, 0, 1, 30, 2);
            if (state == Steps.PAID) {
                w.deliver(ASK);
            } else if (state != Steps.PAYER) {
                w.abort(0);
                Steps.bring(w, state);
            }
            check.due("the state", w.told(0, 2), state);
            isTakenOnly(w, ASK, state == Steps.PAYER);
        }
    }

    /** "VALUE: by a purse that is PAYEE." */
    static void promise4ValueNeedsAPayee() {
        for (int state = 0; state <= 3; state++) {
            Run w = Steps.world(100, 100);
            int first = Steps.go(w, 1, 0, 30, 3);
            if (state != Steps.PAYEE) {
                w.abort(0);
                w.abort(1);
                Steps.bring(w, state);
            }
            check.due("the state", w.told(0, 2), state);
            isTakenOnly(w, first + VALUE, state == Steps.PAYEE);
        }
    }

    /** "THANKS: by a purse that is PAID." */
    static void promise4ThanksNeedsAPaid() {
        for (int state = 0; state <= 3; state++) {
            Run w = Steps.world(100, 100);
            Steps.go(w, 0, 1, 30, 4);
            if (state != Steps.PAID) {
                w.abort(0);
                Steps.bring(w, state);
            }
            check.due("the state", w.told(0, 2), state);
            isTakenOnly(w, THANKS, state == Steps.PAID);
        }
    }

    /** What is not taken changes nothing, when nothing ends by it. */
    private static void isTakenOnly(Run w, int message, boolean taken) {
        String before = Snapshot.of(w);
        check.due("message " + message + " at state " + w.told(0, 2), w.deliver(message), taken);
        check.due("nothing changes by it", Snapshot.of(w).equals(before), !taken);
    }

    /** "With just this transfer .. two are the same, if all of these are": one that differs in a single part. */
    static void promise4AskOfAnotherPayersSerial() {
        Run w = Steps.world(100, 100);
        Steps.go(w, 0, 1, 30, 2);
        w.deliver(PAY);
        check.due("the payer's", Steps.transferOf(w, 0), "0 3 1 1 30");
        check.due("the message's", Steps.messageOf(w, ASK), "0 1 1 1 30 2 0");
        isTakenOnly(w, ASK, false);
    }

    static void promise4AskOfAnotherPayee() {
        Run w = Steps.world(100, 100, 100);
        w.begin(0, 1, 30);
        w.begin(0, 2, 30);
        w.deliver(0);
        w.deliver(3);
        check.due("the payer's", Steps.transferOf(w, 0), "0 1 1 1 30");
        check.due("the message's", Steps.messageOf(w, 4), "0 1 2 1 30 2 0");
        isTakenOnly(w, 4, false);
    }

    static void promise4AskOfAnotherPayeesSerial() {
        Run w = Steps.world(100, 100);
        Steps.go(w, 0, 1, 30, 2);
        w.deliver(EARN);
        check.due("the payer's", Steps.transferOf(w, 0), "0 1 1 1 30");
        check.due("the message's", Steps.messageOf(w, 3), "0 1 1 3 30 2 0");
        isTakenOnly(w, 3, false);
        isTakenOnly(w, ASK, true);
    }

    static void promise4AskOfAnotherAmount() {
        Run w = Steps.world(100, 100);
        w.begin(0, 1, 30);
        w.begin(0, 1, 29);
        w.deliver(0);
        w.deliver(3);
        check.due("the payer's", Steps.transferOf(w, 0), "0 1 1 1 30");
        check.due("the message's", Steps.messageOf(w, 4), "0 1 1 1 29 2 0");
        isTakenOnly(w, 4, false);
    }

    /** The payee waits again, by the same EARN, under its next serial. */
    static void promise4ValueOfAnotherTransfer() {
        Run w = Steps.world(100, 100);
        Steps.go(w, 0, 1, 30, 3);
        w.deliver(EARN);
        check.due("the payee's", Steps.transferOf(w, 1), "0 1 1 3 30");
        check.due("the message's", Steps.messageOf(w, VALUE), "0 1 1 1 30 3 1");
        isTakenOnly(w, VALUE, false);
    }

    /** The payer has paid again, after the first value came and before the first thanks. */
    static void promise4ThanksOfAnotherTransfer() {
        Run w = Steps.world(100, 100);
        Steps.go(w, 0, 1, 30, 4);
        w.abort(0);
        int next = Steps.go(w, 0, 1, 30, 3);
        check.due("the payer's", Steps.transferOf(w, 0), "0 3 1 2 30");
        check.due("the message's", Steps.messageOf(w, THANKS), "0 1 1 1 30 4 0");
        isTakenOnly(w, THANKS, false);
        w.deliver(next + VALUE);
        isTakenOnly(w, next + THANKS, true);
    }

    /** The value comes late, when the payer has given up: it is taken, and only the thanks are not. */
    static void promise4LateMessages() {
        Run w = Steps.world(10, 10);
        Steps.go(w, 0, 1, 4, 3);
        w.abort(0);
        check.due("VALUE comes though the payer gave up", w.deliver(VALUE), true);
        check.due("THANKS to a payer that gave up", w.deliver(THANKS), false);
        check.due("the payer", Steps.toldOf(w, 0), "6 3 0 1");
        check.due("the payee", Steps.toldOf(w, 1), "14 2 0 0");
    }

    /** VALUE and THANKS end nothing: the serial and the log stay as they are. */
    static void promise4ValueAndThanksLeaveTheSerial() {
        Run w = Steps.world(100, 100);
        Steps.lose(w, 0, 1, 1);
        Steps.go(w, 0, 1, 30, 3);
        check.due("the payer before", Steps.toldOf(w, 0), "69 4 3 1");
        check.due("the payee before", Steps.toldOf(w, 1), "100 4 2 1");
        w.deliver(7);
        w.deliver(8);
        check.due("the payer", Steps.toldOf(w, 0), "69 4 0 1");
        check.due("the payee", Steps.toldOf(w, 1), "130 4 0 1");
    }

    public static void main(String[] args) {
        check.runPromises(DeliverTest.class);
    }
}
