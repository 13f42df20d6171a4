/** Promises 4 (deliver, messages 5 and 6), 7 (authorise), 8 (refund), 14 (entries), 15 (entry). */
public final class ArchiveTest {
    private static final Check check = new Check();

    /** "Taken, if the archive has not that of this purse": by no message of the same once more. */
    static void promise4RecordOnce() {
        Run w = Steps.world(100, 20);
        Steps.lose(w, 0, 1, 30);
        int first = w.messages();
        w.readLog(0);
        w.readLog(0);
        check.due("RECORD", w.deliver(first), true);
        check.due("entry 0", Steps.entryOf(w, 0), "0 1 1 1 30 0 0");
        check.due("RECORD again", w.deliver(first), false);
        check.due("another RECORD of the same", w.deliver(first + 1), false);
        check.due("entries()", w.entries(), 1);
    }

    /** What it has of the other side is not of this purse. */
    static void promise4RecordOfBothSides() {
        Run w = Steps.world(100, 20);
        Steps.lose(w, 0, 1, 30);
        int first = w.messages();
        w.readLog(0);
        w.readLog(1);
        check.due("RECORD of the payee", w.deliver(first + 1), true);
        check.due("RECORD of the payer", w.deliver(first), true);
        check.due("entry 0", Steps.entryOf(w, 0), "0 1 1 1 30 1 0");
        check.due("entry 1", Steps.entryOf(w, 1), "0 1 1 1 30 0 0");
        check.due("RECORD of the payee again", w.deliver(first + 1), false);
        check.due("entries()", w.entries(), 2);
    }

    /** What differs in a serial alone is another transfer of this purse. */
    static void promise4RecordOfAnotherSerial() {
        Run w = Steps.world(100, 20);
        w.begin(0, 1, 30);
        w.deliver(1);
        w.deliver(1);
        w.abort(1);
        int first = w.messages();
        check.due("readLog(1)", w.readLog(1), 2);
        check.due("RECORD of the first", w.deliver(first), true);
        check.due("RECORD of its twin", w.deliver(first + 1), true);
        check.due("entry 0", Steps.entryOf(w, 0), "0 1 1 1 30 1 0");
        check.due("entry 1", Steps.entryOf(w, 1), "0 1 1 3 30 1 0");
    }

    /** It comes to the archive, whatever the purse does; nothing ends by it. */
    static void promise4RecordAtEachState() {
        for (int state = 0; state <= 3; state++) {
            Run w = Steps.world(100, 100);
            Steps.lose(w, 0, 1, 30);
            int first = w.messages();
            w.readLog(0);
            Steps.bring(w, state);
            String before = Steps.toldOf(w, 0) + ", " + Steps.transferOf(w, 0);
            check.due("RECORD at state " + state, w.deliver(first), true);
            check.due("the purse goes on", Steps.toldOf(w, 0) + ", " + Steps.transferOf(w, 0), before);
        }
    }

    /** A RECORD of what has been cleared since comes too late to be another entry. */
    static void promise4RecordAfterClear() {
        Run w = Steps.world(100, 20);
        Steps.lose(w, 0, 1, 30);
        int late = w.messages();
        w.readLog(0);
        Steps.tell(w, 0);
        check.due("CLEAR", w.deliver(w.authorise(0)), true);
        check.due("RECORD after it", w.deliver(late), false);
        check.due("entries()", w.entries(), 1);
    }

    /** "Taken, if the purse is IDLE": and nothing ends by it. */
    static void promise4ClearOnlyWhenIdle() {
        for (int state = 0; state <= 3; state++) {
            Run w = Steps.world(100, 100);
            Steps.lose(w, 0, 1, 30);
            Steps.tell(w, 0);
            int clear = w.authorise(0);
            Steps.bring(w, state);
            String before = Snapshot.of(w);
            check.due("CLEAR at state " + state, w.deliver(clear), state == Steps.IDLE);
            check.due("nothing changes by it", Snapshot.of(w).equals(before), state != Steps.IDLE);
        }
    }

    /** "Its log is not empty .. : the log is empty then." */
    static void promise4ClearOfAnEmptyLog() {
        Run w = Steps.world(100, 20);
        Steps.lose(w, 0, 1, 30);
        Steps.tell(w, 0);
        int clear = w.authorise(0);
        check.due("CLEAR of a log of one", w.deliver(clear), true);
        check.due("the log is empty, and nothing else changes", Steps.toldOf(w, 0), "70 3 0 0");
        String before = Snapshot.of(w);
        check.due("CLEAR of an empty log", w.deliver(clear), false);
        check.due("all that can be told then", Snapshot.of(w), before);
        check.due("the other purse's log stays", w.told(1, 3), 1);
        check.due("the archive stays", w.entries(), 1);
    }

    /** "All of it is among that": of a full log four are too few, all five are enough. */
    static void promise4ClearNeedsAllOfTheLog() {
        Run w = Steps.world(100, 20);
        Steps.lose(w, 0, 1, 1, 5);
        int first = w.messages();
        w.readLog(0);
        for (int without = 4; without >= 0; without--) {
            w.deliver(first + without);
            check.due("CLEAR without the first " + without, w.deliver(w.authorise(0)), without == 0);
            check.due("how many are in the log", w.told(0, 3), without == 0 ? 0 : 5);
        }
        check.due("PAY when the log is empty again", w.deliver(0), true);
    }

    /** The one that is missing may be any of the log. */
    static void promise4ClearWithoutOneOfTheLog() {
        for (int missing = 0; missing < 5; missing++) {
            Run w = Steps.world(100, 20);
            Steps.lose(w, 0, 1, 1, 5);
            int first = w.messages();
            w.readLog(0);
            for (int i = 0; i < 5; i++) {
                if (i != missing) {
                    w.deliver(first + i);
                }
            }
            check.due("CLEAR without transfer " + missing, w.deliver(w.authorise(0)), false);
            check.due("how many are in the log", w.told(0, 3), 5);
        }
    }

    /** The archive may have had more of the purse than its log has now. */
    static void promise4ClearWithMoreThanTheLog() {
        Run w = Steps.world(100, 20);
        Steps.lose(w, 0, 1, 30);
        Steps.tell(w, 0);
        w.deliver(w.authorise(0));
        Steps.lose(w, 0, 1, 5);
        Steps.tell(w, 0);
        check.due("CLEAR", w.deliver(w.authorise(0)), true);
        check.due("how many are in the log", w.told(0, 3), 0);
    }

    /** "What the archive had of it when it was sent": the entry before it counts, the entry behind it does not. */
    static void promise4ClearHasWhatTheArchiveHadThen() {
        Run w = Steps.world(100, 20);
        Steps.lose(w, 0, 1, 30);
        Steps.tell(w, 0);
        Steps.lose(w, 0, 1, 5);
        int record = w.messages() + 1;
        w.readLog(0);
        int early = w.authorise(0);
        w.deliver(record);
        int late = w.authorise(0);
        check.due("CLEAR sent before the last entry", w.deliver(early), false);
        check.due("CLEAR sent behind the last entry", w.deliver(late), true);
    }

    /** "Had of it": what the other side told of the same transfer does not count. */
    static void promise4ClearNeedsThisPursesWord() {
        Run w = Steps.world(100, 20);
        Steps.lose(w, 0, 1, 30);
        Steps.tell(w, 0);
        Steps.lose(w, 0, 1, 2);
        Steps.tell(w, 1);
        check.due("CLEAR of the payer", w.deliver(w.authorise(0)), false);
        check.due("CLEAR of the payee", w.deliver(w.authorise(1)), true);
        check.due("the logs", w.told(0, 3) * 10 + w.told(1, 3), 20);
    }

    static void promise4AnOldClearComesAgain() {
        Run w = Steps.world(100, 20);
        Steps.lose(w, 0, 1, 30);
        Steps.tell(w, 0);
        int clear = w.authorise(0);
        check.due("CLEAR", w.deliver(clear), true);
        Steps.lose(w, 0, 1, 30);
        check.due("the old one, with a new log", w.deliver(clear), false);
        check.due("how many are in the log", w.told(0, 3), 1);
    }

    /** "A message 6 for a purse: its number": whatever it does, and with an empty log too. */
    static void promise7Authorise() {
        Run w = Steps.world(100, 20, 3);
        Steps.lose(w, 0, 1, 30);
        Steps.tell(w, 1);
        int number = w.messages();
        check.due("authorise(1)", w.authorise(1), number);
        check.due("message 6", Steps.messageOf(w, number), "-1 -1 -1 -1 -1 6 1");
        check.due("authorise(1) again", w.authorise(1), number + 1);
        w.deliver(number);
        check.due("authorise(1) with an empty log", w.authorise(1), number + 2);
        Steps.go(w, 2, 1, 1, 2);
        check.due("authorise(1) when it is not idle", w.authorise(1), w.messages() - 1);
    }

    /** "IllegalState: the archive has nothing of it": nothing at all, of the other side alone, one of it. */
    static void promise7NothingOfIt() {
        Run w = Steps.world(100, 20);
        check.refused("authorise with nothing lost", w, Steps.STATE, () -> w.authorise(0));
        Steps.lose(w, 0, 1, 30);
        check.refused("authorise with an empty archive", w, Steps.STATE, () -> w.authorise(0));
        w.readLog(0);
        check.refused("authorise before the RECORD comes", w, Steps.STATE, () -> w.authorise(0));
        Steps.tell(w, 1);
        check.refused("authorise when the other side has told", w, Steps.STATE, () -> w.authorise(0));
        w.deliver(4);
        check.due("authorise when it has told", w.authorise(0), w.messages() - 1);
    }

    static void promise7NoSuchPurse() {
        Run w = Steps.world(100, 20);
        Steps.lose(w, 0, 1, 30);
        Steps.tell(w, 0);
        Steps.tell(w, 1);
        check.bounds("authorise(p)", w, 0, 1, Steps.BOUNDS, w::authorise);
    }

    /** "The payer's balance is more by the amount: that balance." */
    static void promise8Refund() {
        Run w = Steps.world(100, 20);
        Steps.lose(w, 0, 1, 30);
        Steps.lose(w, 1, 0, 4);
        Steps.tell(w, 0);
        Steps.tell(w, 1);
        check.due("refund(3)", w.refund(3), 20);
        check.due("refund(0)", w.refund(0), 100);
        check.due("the first payer", w.told(0, 0), 100);
        check.due("the other one", w.told(1, 0), 20);
    }

    /** "IllegalState: the archive has it not of both sides": of the payer alone. */
    static void promise8ToldByThePayerAlone() {
        Run w = Steps.world(100, 20);
        Steps.lose(w, 0, 1, 30);
        Steps.tell(w, 0);
        check.refused("refund(0)", w, Steps.STATE, () -> w.refund(0));
        w.readLog(1);
        check.refused("refund(0) before the payee's RECORD comes", w, Steps.STATE, () -> w.refund(0));
        w.deliver(w.messages() - 1);
        check.due("refund(0) then", w.refund(0), 100);
    }

    static void promise8ToldByThePayeeAlone() {
        Run w = Steps.world(100, 20);
        Steps.lose(w, 0, 1, 30);
        Steps.tell(w, 1);
        check.refused("refund(0)", w, Steps.STATE, () -> w.refund(0));
        Steps.tell(w, 0);
        check.due("refund(0) then", w.refund(0), 100);
    }

    /** "Or it is refunded": by one entry it is so for both. */
    static void promise8OnlyOnce() {
        for (int by = 0; by <= 1; by++) {
            Run w = Steps.world(100, 20);
            Steps.lose(w, 0, 1, 30);
            Steps.tell(w, 0);
            Steps.tell(w, 1);
            check.due("refund(" + by + ")", w.refund(by), 100);
            check.refused("refund(0) again", w, Steps.STATE, () -> w.refund(0));
            check.refused("refund(1) again", w, Steps.STATE, () -> w.refund(1));
        }
    }

    /** Alike but for one serial is another transfer: it is not refunded by the other side's word for its twin. */
    static void promise8OnlyTheSameTransfer() {
        Run w = Steps.world(100, 20);
        w.begin(0, 1, 30);
        w.deliver(1);
        w.abort(1);
        w.deliver(1);
        w.deliver(0);
        w.deliver(2);
        w.abort(0);
        w.abort(1);
        Steps.tell(w, 0);
        Steps.tell(w, 1);
        check.due("what the payer told", Steps.entryOf(w, 0), "0 1 1 1 30 0 0");
        check.due("what the payee told first", Steps.entryOf(w, 1), "0 1 1 1 30 1 0");
        check.due("what the payee told then", Steps.entryOf(w, 2), "0 1 1 3 30 1 0");
        check.refused("refund(2)", w, Steps.STATE, () -> w.refund(2));
        check.due("refund(1)", w.refund(1), 100);
        check.due("entry 2 is not refunded", w.entry(2, 6), 0);
    }

    /** Logs need not have it any more, and what the payer does goes on. */
    static void promise8AfterClear() {
        for (int state = 0; state <= 3; state++) {
            Run w = Steps.world(35, 20);
            Steps.lose(w, 0, 1, 30);
            Steps.tell(w, 0);
            Steps.tell(w, 1);
            w.deliver(w.authorise(0));
            w.deliver(w.authorise(1));
            Steps.bring(w, state);
            int balance = w.told(0, 0);
            String before = Steps.transferOf(w, 0);
            check.due("refund(0) at state " + state, w.refund(0), balance + 30);
            check.due("the state", w.told(0, 2), state);
            check.due("its transfer", Steps.transferOf(w, 0), before);
        }
    }

    /** A balance has no bound but that of a new purse. */
    static void promise8AboveTheGreatestNewBalance() {
        Run w = Steps.world(1000000000, 1000000);
        Steps.lose(w, 0, 1, 1000000);
        Steps.go(w, 1, 0, 1000000, 5);
        Steps.tell(w, 0);
        Steps.tell(w, 1);
        check.due("the payer before", w.told(0, 0), 1000000000);
        check.due("refund(0)", w.refund(0), 1001000000);
    }

    static void promise8NoSuchEntry() {
        Run w = Steps.world(100, 20, 7);
        Steps.lose(w, 0, 1, 30);
        Steps.lose(w, 1, 2, 3);
        for (int purse = 0; purse < 3; purse++) {
            Steps.tell(w, purse);
        }
        check.bounds("refund(k)", w, 0, 3, Steps.BOUNDS, w::refund);
    }

    static void promise14Entries() {
        Run w = Steps.world(100, 20);
        Steps.lose(w, 0, 1, 1, 5);
        int first = w.messages();
        w.readLog(1);
        check.due("entries() before they come", w.entries(), 0);
        for (int i = 0; i < 5; i++) {
            w.deliver(first + i);
            w.deliver(first + i);
            check.due("entries()", w.entries(), i + 1);
        }
        w.deliver(w.authorise(1));
        check.due("entries() after CLEAR", w.entries(), 5);
        Steps.tell(w, 0);
        w.refund(0);
        check.due("entries() after a refund", w.entries(), 10);
    }

    /** "The purse that told it (5), whether it is refunded, 1 or 0 (6)", in the order in which they came. */
    static void promise15Entry() {
        Run w = Steps.world(100, 20, 9);
        Steps.lose(w, 0, 1, 30);
        Steps.lose(w, 2, 0, 4);
        int first = w.messages();
        w.readLog(0);
        w.readLog(1);
        w.deliver(first + 2);
        w.deliver(first + 1);
        w.deliver(first);
        check.due("entry 0", Steps.entryOf(w, 0), "0 1 1 1 30 1 0");
        check.due("entry 1", Steps.entryOf(w, 1), "2 1 0 3 4 0 0");
        check.due("entry 2", Steps.entryOf(w, 2), "0 1 1 1 30 0 0");
        w.refund(2);
        check.due("entry 0 refunded", Steps.entryOf(w, 0), "0 1 1 1 30 1 1");
        check.due("entry 1 not", Steps.entryOf(w, 1), "2 1 0 3 4 0 0");
        check.due("entry 2 refunded", Steps.entryOf(w, 2), "0 1 1 1 30 0 1");
    }

    static void promise15NoSuchEntry() {
        Run w = Steps.world(100, 20);
        Steps.lose(w, 0, 1, 30);
        Steps.tell(w, 0);
        check.bounds("entry(k, 0) of one", w, 0, 0, Steps.BOUNDS, k -> w.entry(k, 0));
        Steps.tell(w, 1);
        check.bounds("entry(k, 6) of two", w, 0, 1, Steps.BOUNDS, k -> w.entry(k, 6));
    }

    /** "IllegalArgument: what is none of these." */
    static void promise15What() {
        Run w = Steps.world(100, 20);
        Steps.lose(w, 0, 1, 30);
        Steps.tell(w, 0);
        check.bounds("entry(0, what)", w, 0, 6, Steps.ARGUMENT, what -> w.entry(0, what));
    }

    static void promise15WhichComesFirst() {
        Run w = Steps.world(100, 20);
        Steps.lose(w, 0, 1, 30);
        Steps.tell(w, 0);
        check.refused("entry(1, 7)", w, Steps.BOUNDS, () -> w.entry(1, 7));
        check.refused("entry(-1, -1)", w, Steps.BOUNDS, () -> w.entry(-1, -1));
    }

    public static void main(String[] args) {
        check.runPromises(ArchiveTest.class);
    }
}
