/** Promises 3 (begin), 4 (deliver, messages 0 to 4), 10 (transfer), 12 (messages), 13 (message). */
public final class MessagesTest {
    private static final Check check = new Check();

    private static void promise3Begin() {
        PurseWorld w = Steps.world(100, 20, 0);
        check.due("begin(0, 1, 1)", w.begin(0, 1, 1), 0);
        check.due("begin(2, 1, 1000000)", w.begin(2, 1, 1000000), 2);
        check.due("messages()", w.messages(), 4);
        check.due("message 0", Steps.messageOf(w, 0), "0 0 1 1 1 0 0");
        check.due("message 1", Steps.messageOf(w, 1), "0 1 1 0 1 1 1");
        check.due("message 2", Steps.messageOf(w, 2), "2 0 1 1 1000000 0 2");
        check.due("message 3", Steps.messageOf(w, 3), "2 1 1 0 1000000 1 1");
        check.due("the payer", Steps.toldOf(w, 0), "100 1 0 0");
        w.deliver(0);
        w.deliver(3);
        w.abort(1);
        check.due("begin(1, 0, 5)", w.begin(1, 0, 5), 5);
        check.due("PAY has the payee's serial of now", Steps.messageOf(w, 5), "1 0 0 2 5 0 1");
        check.due("EARN has the payer's serial of now", Steps.messageOf(w, 6), "1 3 0 0 5 1 0");
        check.due("nothing ends by it", w.told(0, 2), Steps.PAYER);
    }

    private static void promise3WrongInputs() {
        PurseWorld w = Steps.world(100, 20);
        for (int purse : new int[] {-1, 2, 12, Integer.MAX_VALUE, Integer.MIN_VALUE}) {
            check.refused("begin(" + purse + ", 0, 1)", w, Steps.BOUNDS, () -> w.begin(purse, 0, 1));
            check.refused("begin(0, " + purse + ", 1)", w, Steps.BOUNDS, () -> w.begin(0, purse, 1));
            check.refused("begin(" + purse + ", " + purse + ", 0)", w, Steps.BOUNDS, () -> w.begin(purse, purse, 0));
        }
        for (int amount : new int[] {0, -1, 1000001, Integer.MAX_VALUE, Integer.MIN_VALUE}) {
            check.refused("begin(0, 1, " + amount + ")", w, Steps.ARGUMENT, () -> w.begin(0, 1, amount));
        }
        check.refused("begin(1, 1, 5)", w, Steps.ARGUMENT, () -> w.begin(1, 1, 5));
    }

    private static void promise4WholeTransfer() {
        PurseWorld w = Steps.world(100, 20);
        w.begin(0, 1, 30);
        check.due("PAY", w.deliver(0), true);
        check.due("the payer", Steps.toldOf(w, 0), "100 2 1 0");
        check.due("messages() after PAY", w.messages(), 2);
        check.due("EARN", w.deliver(1), true);
        check.due("the payee", Steps.toldOf(w, 1), "20 2 2 0");
        check.due("ASK", Steps.messageOf(w, 2), "0 1 1 1 30 2 0");
        check.due("ASK is taken", w.deliver(2), true);
        check.due("the payer has paid", Steps.toldOf(w, 0), "70 2 3 0");
        check.due("VALUE", Steps.messageOf(w, 3), "0 1 1 1 30 3 1");
        check.due("VALUE is taken", w.deliver(3), true);
        check.due("the payee has it", Steps.toldOf(w, 1), "50 2 0 0");
        check.due("THANKS", Steps.messageOf(w, 4), "0 1 1 1 30 4 0");
        check.due("THANKS is taken", w.deliver(4), true);
        check.due("the payer is idle", Steps.toldOf(w, 0), "70 2 0 0");
        check.due("messages()", w.messages(), 5);
        for (int i = 2; i <= 4; i++) {
            check.due("message " + i + " again", w.deliver(i), false);
        }
        check.due("the payer after all of it again", Steps.toldOf(w, 0), "70 2 0 0");
        check.due("the payee after all of it again", Steps.toldOf(w, 1), "50 2 0 0");
        check.due("messages() after all of it again", w.messages(), 5);
        for (int i : new int[] {-1, 5, 800, Integer.MAX_VALUE, Integer.MIN_VALUE}) {
            check.refused("deliver(" + i + ")", w, Steps.BOUNDS, () -> w.deliver(i));
        }
    }

    private static void promise4PayEndsEvenIfNotTaken() {
        PurseWorld w = Steps.world(10, 10, 10);
        Steps.go(w, 0, 1, 8, 3);
        int tooMuch = w.begin(0, 2, 3);
        check.due("PAY of more than the balance", w.deliver(tooMuch), false);
        check.due("what it did has ended", Steps.toldOf(w, 0), "2 3 0 1");
        check.due("its log", Steps.logOf(w, 0, 0), "0 1 1 1 8");
        check.due("the same when idle", w.deliver(tooMuch), false);
        check.due("an idle purse keeps its serial", Steps.toldOf(w, 0), "2 3 0 1");
        int all = w.begin(0, 2, 2);
        check.due("PAY of the whole balance", w.deliver(all), true);
        check.due("PAYER again by the same message", w.deliver(all), true);
        check.due("a payer leaves nothing in its log", Steps.toldOf(w, 0), "2 6 1 1");
        check.due("its transfer", Steps.transferOf(w, 0), "0 5 2 1 2");
    }

    private static void promise4EarnEnds() {
        PurseWorld w = Steps.world(10, 10);
        int first = w.begin(0, 1, 4);
        w.deliver(first + 1);
        check.due("EARN again", w.deliver(first + 1), true);
        check.due("the first one is in the log", Steps.toldOf(w, 1), "10 4 2 1");
        check.due("the log", Steps.logOf(w, 1, 0), "0 1 1 1 4");
        check.due("the transfer", Steps.transferOf(w, 1), "0 1 1 3 4");
        check.due("its ASK", Steps.messageOf(w, 3), "0 1 1 3 4 2 0");
        w.deliver(first);
        check.due("the payer's transfer", Steps.transferOf(w, 0), "0 1 1 1 4");
        check.due("ASK of the other transfer", w.deliver(3), false);
        check.due("ASK of the payer's own", w.deliver(2), true);
        check.due("VALUE of what the payee has given up", w.deliver(4), false);
        check.due("the payer's balance", w.told(0, 0), 6);
        check.due("the payee's balance", w.told(1, 0), 10);
    }

    private static void promise4EarnAsPayerOrPaid() {
        PurseWorld w = Steps.world(10, 10);
        int there = w.begin(0, 1, 4);
        int back = w.begin(1, 0, 3);
        w.deliver(there);
        check.due("EARN comes to a PAYER", w.deliver(back + 1), true);
        check.due("it has no log of that", Steps.toldOf(w, 0), "10 4 2 0");
        check.due("its transfer", Steps.transferOf(w, 0), "1 1 0 3 3");
        check.due("PAY comes to a PAYEE", w.deliver(there), true);
        check.due("that one is in the log", Steps.toldOf(w, 0), "10 6 1 1");
        check.due("the log", Steps.logOf(w, 0, 0), "1 1 0 3 3");
    }

    private static void promise4LateMessages() {
        PurseWorld w = Steps.world(10, 10);
        int first = Steps.go(w, 0, 1, 4, 3);
        check.due("ASK to a PAID purse", w.deliver(first + 2), false);
        w.abort(0);
        check.due("VALUE comes though the payer gave up", w.deliver(first + 3), true);
        check.due("THANKS to a payer that gave up", w.deliver(first + 4), false);
        check.due("the payer", Steps.toldOf(w, 0), "6 3 0 1");
        check.due("the payee", Steps.toldOf(w, 1), "14 2 0 0");
        PurseWorld v = Steps.world(10, 10);
        Steps.go(v, 0, 1, 4, 2);
        v.abort(0);
        check.due("ASK to a payer that gave up", v.deliver(2), false);
        v.deliver(0);
        check.due("ASK with another serial of the payer", v.deliver(2), false);
        check.due("nobody is debited", v.balances(), 20L);
    }

    private static void promise4FullLogs() {
        PurseWorld w = Steps.world(100, 100);
        for (int i = 0; i < 5; i++) {
            check.due("in the log", w.told(0, 3), i);
            Steps.lose(w, 0, 1, 1);
        }
        int first = w.begin(0, 1, 1);
        int back = w.begin(1, 0, 1);
        int before = w.messages();
        check.due("PAY with a full log", w.deliver(first), false);
        check.due("EARN with a full log", w.deliver(first + 1), false);
        check.due("PAY the other way", w.deliver(back), false);
        check.due("EARN the other way", w.deliver(back + 1), false);
        check.due("nothing is sent", w.messages(), before);
        check.due("the payer", Steps.toldOf(w, 0), "95 11 0 5");
        check.due("the payee", Steps.toldOf(w, 1), "100 11 0 5");
    }

    private static void promise4LogFilledByTheMessageItself() {
        PurseWorld w = Steps.world(100, 100);
        for (int i = 0; i < 4; i++) {
            Steps.lose(w, 0, 1, 1);
        }
        Steps.go(w, 0, 1, 1, 3);
        int next = w.begin(0, 1, 1);
        check.due("PAY that fills the log", w.deliver(next), false);
        check.due("the payer", Steps.toldOf(w, 0), "95 11 0 5");
        check.due("EARN that fills the log", w.deliver(next + 1), false);
        check.due("the payee", Steps.toldOf(w, 1), "100 11 0 5");
        check.due("nothing is sent for it", w.messages(), next + 2);
    }

    private static void promise10Transfer() {
        PurseWorld w = Steps.world(100, 20, 0);
        w.begin(0, 1, 7);
        w.begin(2, 0, 9);
        check.due("an idle purse", Steps.transferOf(w, 0), "-1 -1 -1 -1 -1");
        w.deliver(3);
        check.due("as PAYEE", Steps.transferOf(w, 0), "2 1 0 1 9");
        w.deliver(0);
        check.due("as PAYER", Steps.transferOf(w, 0), "0 3 1 1 7");
        w.abort(0);
        check.due("idle again", Steps.transferOf(w, 0), "-1 -1 -1 -1 -1");
        w.begin(0, 1, 7);
        w.deliver(5);
        w.deliver(6);
        w.deliver(7);
        check.due("as PAID", Steps.transferOf(w, 0), "0 5 1 1 7");
        for (int what : new int[] {-1, 5, 6, Integer.MAX_VALUE, Integer.MIN_VALUE}) {
            check.refused("transfer(0, " + what + ")", w, Steps.ARGUMENT, () -> w.transfer(0, what));
            check.refused("transfer(2, " + what + ") of an idle one", w, Steps.ARGUMENT, () -> w.transfer(2, what));
        }
        for (int purse : new int[] {-1, 3, Integer.MAX_VALUE, Integer.MIN_VALUE}) {
            check.refused("transfer(" + purse + ", 0)", w, Steps.BOUNDS, () -> w.transfer(purse, 0));
            check.refused("transfer(" + purse + ", 5)", w, Steps.BOUNDS, () -> w.transfer(purse, 5));
        }
    }

    private static void promise12Messages() {
        PurseWorld w = Steps.world(100, 20);
        check.due("messages()", w.messages(), 0);
        w.begin(0, 1, 5);
        check.due("messages() after begin", w.messages(), 2);
        int[] counts = {2, 3, 4, 5, 5};
        for (int i = 0; i < counts.length; i++) {
            w.deliver(i);
            check.due("messages() after message " + i, w.messages(), counts[i]);
        }
        Steps.lose(w, 0, 1, 5);
        check.due("messages() after a lost transfer", w.messages(), 9);
        w.readLog(0);
        check.due("messages() after readLog", w.messages(), 10);
        w.deliver(9);
        check.due("messages() after RECORD", w.messages(), 10);
        w.authorise(0);
        check.due("messages() after authorise", w.messages(), 11);
        w.deliver(10);
        check.due("messages() after CLEAR", w.messages(), 11);
    }

    private static void promise13Message() {
        PurseWorld w = Steps.world(100, 20, 7);
        Steps.lose(w, 1, 2, 5);
        Steps.tell(w, 2);
        w.authorise(2);
        check.due("PAY", Steps.messageOf(w, 0), "1 0 2 1 5 0 1");
        check.due("EARN", Steps.messageOf(w, 1), "1 1 2 0 5 1 2");
        check.due("ASK", Steps.messageOf(w, 2), "1 1 2 1 5 2 1");
        check.due("VALUE", Steps.messageOf(w, 3), "1 1 2 1 5 3 2");
        check.due("RECORD", Steps.messageOf(w, 4), "1 1 2 1 5 5 -1");
        check.due("CLEAR", Steps.messageOf(w, 5), "-1 -1 -1 -1 -1 6 2");
        for (int what : new int[] {-1, 7, Integer.MAX_VALUE, Integer.MIN_VALUE}) {
            for (int i = 0; i < 6; i++) {
                int number = i;
                check.refused("message(" + i + ", " + what + ")", w, Steps.ARGUMENT, () -> w.message(number, what));
            }
        }
        for (int i : new int[] {-1, 6, Integer.MAX_VALUE, Integer.MIN_VALUE}) {
            check.refused("message(" + i + ", 0)", w, Steps.BOUNDS, () -> w.message(i, 0));
            check.refused("message(" + i + ", 7)", w, Steps.BOUNDS, () -> w.message(i, 7));
        }
    }

    public static void main(String[] args) {
        promise3Begin();
        promise3WrongInputs();
        promise4WholeTransfer();
        promise4PayEndsEvenIfNotTaken();
        promise4EarnEnds();
        promise4EarnAsPayerOrPaid();
        promise4LateMessages();
        promise4FullLogs();
        promise4LogFilledByTheMessageItself();
        promise10Transfer();
        promise12Messages();
        promise13Message();
        check.end();
    }
}
