/** Promises 4 (deliver, messages 5 and 6), 7 (authorise), 8 (refund), 14 (entries), 15 (entry). */
public final class ArchiveTest {
    private static final Check check = new Check();

    private static void promise4Record() {
        PurseWorld w = Steps.world(100, 20);
        Steps.lose(w, 0, 1, 30);
        int first = w.messages();
        w.readLog(0);
        w.readLog(0);
        w.readLog(1);
        check.due("RECORD", w.deliver(first), true);
        check.due("RECORD again", w.deliver(first), false);
        check.due("another RECORD of the same", w.deliver(first + 1), false);
        check.due("RECORD of the other side", w.deliver(first + 2), true);
        check.due("entries()", w.entries(), 2);
        check.due("entry 0", Steps.entryOf(w, 0), "0 1 1 1 30 0 0");
        check.due("entry 1", Steps.entryOf(w, 1), "0 1 1 1 30 1 0");
        w.deliver(0);
        check.due("RECORD comes whatever the purse does", w.deliver(first), false);
        check.due("the purse goes on", w.told(0, 2), Steps.PAYER);
    }

    private static void promise4ClearTakesAllOrNothing() {
        PurseWorld w = Steps.world(100, 20);
        Steps.lose(w, 0, 1, 30);
        Steps.tell(w, 0);
        int early = w.authorise(0);
        Steps.lose(w, 0, 1, 5);
        check.due("CLEAR, but the log has more", w.deliver(early), false);
        check.due("the log stays", w.told(0, 3), 2);
        Steps.tell(w, 0);
        check.due("it has only what the archive had then", w.deliver(early), false);
        int late = w.authorise(0);
        w.begin(0, 1, 1);
        w.deliver(late + 1);
        check.due("CLEAR to a purse that is not idle", w.deliver(late), false);
        w.abort(0);
        check.due("CLEAR", w.deliver(late), true);
        check.due("the log is empty", Steps.toldOf(w, 0), "65 7 0 0");
        check.due("CLEAR of an empty log", w.deliver(late), false);
        check.due("the other purse's log stays", w.told(1, 3), 2);
        check.due("the archive stays", w.entries(), 2);
    }

    private static void promise4ClearNeedsThisPursesWord() {
        PurseWorld w = Steps.world(100, 20);
        Steps.lose(w, 0, 1, 30);
        Steps.tell(w, 0);
        Steps.lose(w, 0, 1, 2);
        Steps.tell(w, 1);
        int clear = w.authorise(0);
        check.due("what the other side told does not count", w.deliver(clear), false);
        check.due("CLEAR of the other side", w.deliver(w.authorise(1)), true);
        check.due("the logs", w.told(0, 3) * 10 + w.told(1, 3), 20);
    }

    private static void promise4AnOldClearComesAgain() {
        PurseWorld w = Steps.world(100, 20);
        Steps.lose(w, 0, 1, 30);
        Steps.tell(w, 0);
        int clear = w.authorise(0);
        check.due("CLEAR", w.deliver(clear), true);
        Steps.lose(w, 0, 1, 2);
        check.due("the old one, with a new log", w.deliver(clear), false);
        check.due("the log", w.told(0, 3), 1);
    }

    private static void promise7Authorise() {
        PurseWorld w = Steps.world(100, 20, 3);
        Steps.lose(w, 0, 1, 30);
        check.refused("authorise with an empty archive", w, Steps.STATE, () -> w.authorise(0));
        Steps.tell(w, 1);
        check.refused("authorise of a purse that told nothing", w, Steps.STATE, () -> w.authorise(0));
        int number = w.messages();
        check.due("authorise(1)", w.authorise(1), number);
        check.due("message 6", Steps.messageOf(w, number), "-1 -1 -1 -1 -1 6 1");
        check.due("authorise(1) again", w.authorise(1), number + 1);
        w.deliver(number);
        check.due("authorise(1) with an empty log", w.authorise(1), number + 2);
        Steps.go(w, 2, 1, 1, 2);
        check.due("authorise(1) when it is not idle", w.authorise(1), w.messages() - 1);
        for (int purse : new int[] {-1, 3, Integer.MAX_VALUE, Integer.MIN_VALUE}) {
            check.refused("authorise(" + purse + ")", w, Steps.BOUNDS, () -> w.authorise(purse));
        }
    }

    private static void promise8Refund() {
        PurseWorld w = Steps.world(100, 20);
        check.refused("refund(0)", w, Steps.BOUNDS, () -> w.refund(0));
        Steps.lose(w, 0, 1, 30);
        Steps.lose(w, 1, 0, 4);
        Steps.tell(w, 0);
        check.refused("refund(0) told by the payer alone", w, Steps.STATE, () -> w.refund(0));
        check.refused("refund(1) told by the payee alone", w, Steps.STATE, () -> w.refund(1));
        Steps.tell(w, 1);
        check.due("refund(3)", w.refund(3), 20);
        check.due("refund(0)", w.refund(0), 100);
        check.due("the payer", w.told(0, 0), 100);
        check.due("the other one", w.told(1, 0), 20);
        for (int k = 0; k < 4; k++) {
            int number = k;
            check.refused("refund(" + k + ") again", w, Steps.STATE, () -> w.refund(number));
        }
        for (int k : new int[] {-1, 4, Integer.MAX_VALUE, Integer.MIN_VALUE}) {
            check.refused("refund(" + k + ")", w, Steps.BOUNDS, () -> w.refund(k));
        }
    }

    /** Alike but for one serial is another transfer: it is not refunded by the other side's word for its twin. */
    private static void promise8OnlyTheSameTransfer() {
        PurseWorld w = Steps.world(100, 20);
        w.begin(0, 1, 30);
        w.deliver(1);
        w.abort(1);
        w.deliver(1);
        w.deliver(0);
        w.deliver(2);
        w.abort(0);
        w.abort(1);
        Steps.tell(w, 0);
        Steps.tell(w, 1);
        check.due("what the payer told", Steps.entryOf(w, 0), "0 1 1 1 30 0 0");
        check.due("what the payee told first", Steps.entryOf(w, 1), "0 1 1 1 30 1 0");
        check.due("what the payee told then", Steps.entryOf(w, 2), "0 1 1 3 30 1 0");
        check.refused("refund(2)", w, Steps.STATE, () -> w.refund(2));
        check.due("refund(1)", w.refund(1), 100);
        check.due("entry 2 is not refunded", w.entry(2, 6), 0);
    }

    private static void promise8RefundComesWhateverThePayerDoes() {
        PurseWorld w = Steps.world(30, 20);
        Steps.lose(w, 0, 1, 30);
        Steps.tell(w, 0);
        Steps.tell(w, 1);
        w.begin(1, 0, 5);
        w.deliver(w.messages() - 1);
        String before = Steps.transferOf(w, 0);
        check.due("refund(0)", w.refund(0), 30);
        check.due("the payer goes on", Steps.toldOf(w, 0), "30 4 2 1");
        check.due("with its transfer", Steps.transferOf(w, 0), before);
    }

    private static void promise14Entries() {
        PurseWorld w = Steps.world(100, 20);
        for (int i = 0; i < 5; i++) {
            Steps.lose(w, 0, 1, 1);
        }
        int first = w.messages();
        w.readLog(1);
        check.due("entries() before they come", w.entries(), 0);
        for (int i = 0; i < 5; i++) {
            w.deliver(first + i);
            w.deliver(first + i);
            check.due("entries()", w.entries(), i + 1);
        }
        w.deliver(w.authorise(1));
        check.due("entries() after CLEAR", w.entries(), 5);
        Steps.tell(w, 0);
        w.refund(0);
        check.due("entries() after a refund", w.entries(), 10);
    }

    private static void promise15Entry() {
        PurseWorld w = Steps.world(100, 20, 9);
        Steps.lose(w, 0, 1, 30);
        Steps.lose(w, 2, 0, 4);
        int first = w.messages();
        w.readLog(0);
        w.readLog(1);
        w.deliver(first + 2);
        w.deliver(first + 1);
        w.deliver(first);
        check.due("entry 0", Steps.entryOf(w, 0), "0 1 1 1 30 1 0");
        check.due("entry 1", Steps.entryOf(w, 1), "2 1 0 3 4 0 0");
        check.due("entry 2", Steps.entryOf(w, 2), "0 1 1 1 30 0 0");
        w.refund(2);
        check.due("entry 0 refunded", Steps.entryOf(w, 0), "0 1 1 1 30 1 1");
        check.due("entry 1 not", Steps.entryOf(w, 1), "2 1 0 3 4 0 0");
        check.due("entry 2 refunded", Steps.entryOf(w, 2), "0 1 1 1 30 0 1");
        for (int what : new int[] {-1, 7, Integer.MAX_VALUE, Integer.MIN_VALUE}) {
            check.refused("entry(0, " + what + ")", w, Steps.ARGUMENT, () -> w.entry(0, what));
        }
        for (int k : new int[] {-1, 3, Integer.MAX_VALUE, Integer.MIN_VALUE}) {
            check.refused("entry(" + k + ", 0)", w, Steps.BOUNDS, () -> w.entry(k, 0));
            check.refused("entry(" + k + ", 7)", w, Steps.BOUNDS, () -> w.entry(k, 7));
        }
    }

    public static void main(String[] args) {
        promise4Record();
        promise4ClearTakesAllOrNothing();
        promise4ClearNeedsThisPursesWord();
        promise4AnOldClearComesAgain();
        promise7Authorise();
        promise8Refund();
        promise8OnlyTheSameTransfer();
        promise8RefundComesWhateverThePayerDoes();
        promise14Entries();
        promise15Entry();
        check.end();
    }
}
