/** Promises 5 (abort), 6 (readLog), 11 (log). */
public final class LogsTest {
    private static final Check check = new Check();

    /** "A purse ends what it does: the state that it had"; "if it was not idle, its serial is one more". */
    static void promise5AbortEachState() {
        String[] due = {"100 1 0 0", "100 3 0 0", "100 3 0 1", "95 3 0 1"};
        for (int state = 0; state <= 3; state++) {
            Run w = Steps.world(100, 100);
            Steps.bring(w, state);
            int messages = w.messages();
            check.due("abort at state " + state, w.abort(0), state);
            check.due("the purse then", Steps.toldOf(w, 0), due[state]);
            check.due("its transfer", Steps.transferOf(w, 0), Steps.NO_TRANSFER);
            check.due("abort again", w.abort(0), Steps.IDLE);
            check.due("the purse stays", Steps.toldOf(w, 0), due[state]);
            check.due("nothing is sent", w.messages(), messages);
        }
    }

    /** "As PAYEE and PAID its transfer comes to its log": as PAYER it does not. */
    static void promise5WhatComesToTheLog() {
        String[] due = {null, null, "1 1 0 1 5", "0 1 1 1 5"};
        for (int state = 0; state <= 3; state++) {
            Run w = Steps.world(100, 100);
            Steps.bring(w, state);
            w.abort(0);
            check.due("how many after state " + state, w.told(0, 3), due[state] == null ? 0 : 1);
            if (due[state] != null) {
                check.due("the log after state " + state, Steps.logOf(w, 0, 0), due[state]);
            }
        }
    }

    /** "A LOG of transfers, 5 at most": the fifth comes to it, behind the others. */
    static void promise5TheFifthOfTheLog() {
        for (int state = Steps.PAYEE; state <= Steps.PAID; state++) {
            Run w = Steps.world(100, 100, 100);
            Steps.lose(w, 2, 0, 1, 4);
            Steps.bring(w, state);
            check.due("abort with four in the log", w.abort(0), state);
            check.due("how many there are", w.told(0, 3), 5);
            check.due("the fifth", Steps.logOf(w, 0, 4), state == Steps.PAID ? "0 9 1 1 5" : "1 1 0 9 5");
            check.due("the fourth", Steps.logOf(w, 0, 3), "2 7 0 7 1");
            check.due("abort with five in the log", w.abort(0), Steps.IDLE);
            check.due("how many there are then", w.told(0, 3), 5);
        }
    }

    /** The other side knows nothing of it. */
    static void promise5TheOtherSideGoesOn() {
        Run w = Steps.world(100, 20);
        Steps.go(w, 0, 1, 30, 3);
        w.abort(0);
        check.due("the payee", Steps.toldOf(w, 1) + ", " + Steps.transferOf(w, 1), "20 2 2 0, 0 1 1 1 30");
    }

    static void promise5NoSuchPurse() {
        Run w = Steps.world(100, 20, 0);
        check.bounds("abort(p)", w, 0, 2, Steps.BOUNDS, w::abort);
    }

    /** "A message 5 for each transfer of a purse's log, in order: how many." */
    static void promise6ReadLog() {
        Run w = Steps.world(100, 20, 0);
        Steps.lose(w, 0, 1, 30);
        Steps.lose(w, 1, 0, 4);
        int first = w.messages();
        check.due("readLog(0)", w.readLog(0), 2);
        check.due("messages()", w.messages(), first + 2);
        check.due("the first", Steps.messageOf(w, first), "0 1 1 1 30 5 -1");
        check.due("the second", Steps.messageOf(w, first + 1), "1 3 0 3 4 5 -1");
        check.due("the log stays", w.told(0, 3), 2);
        check.due("entries() stay", w.entries(), 0);
        check.due("again", w.readLog(0), 2);
        check.due("messages() then", w.messages(), first + 4);
    }

    static void promise6AnEmptyLog() {
        Run w = Steps.world(100, 20);
        check.due("readLog of an empty log", w.readLog(1), 0);
        check.due("messages()", w.messages(), 0);
    }

    static void promise6AFullLog() {
        Run w = Steps.world(100, 20);
        for (int amount = 1; amount <= 5; amount++) {
            Steps.lose(w, 0, 1, amount);
        }
        int first = w.messages();
        check.due("readLog of a full log", w.readLog(0), 5);
        check.due("messages()", w.messages(), first + 5);
        for (int i = 0; i < 5; i++) {
            check.due("message " + i + " of it", Steps.messageOf(w, first + i), Steps.logOf(w, 0, i) + " 5 -1");
        }
    }

    /** "IllegalState: it is not IDLE": with an empty log and with one in it. */
    static void promise6OnlyWhenIdle() {
        for (int state = 0; state <= 3; state++) {
            for (int kept = 0; kept <= 1; kept++) {
                Run w = Steps.world(100, 100);
                Steps.lose(w, 0, 1, 1, kept);
                Steps.bring(w, state);
                String call = "readLog at state " + state + " with " + kept + " in the log";
                if (state == Steps.IDLE) {
                    check.due(call, w.readLog(0), kept);
                } else {
                    check.refused(call, w, Steps.STATE, () -> w.readLog(0));
                }
            }
        }
    }

    static void promise6NoSuchPurse() {
        Run w = Steps.world(100, 20, 0);
        check.bounds("readLog(p)", w, 0, 2, Steps.BOUNDS, w::readLog);
    }

    static void promise11Log() {
        Run w = Steps.world(100, 20);
        Steps.lose(w, 0, 1, 30);
        Steps.lose(w, 1, 0, 4);
        Steps.lose(w, 0, 1, 2);
        String[] due = {"0 1 1 1 30", "1 3 0 3 4", "0 5 1 5 2"};
        for (int i = 0; i < due.length; i++) {
            check.due("log(0, " + i + ")", Steps.logOf(w, 0, i), due[i]);
            check.due("log(1, " + i + ")", Steps.logOf(w, 1, i), due[i]);
        }
    }

    /** It is told whatever the purse does. */
    static void promise11WhenNotIdle() {
        for (int state = 0; state <= 3; state++) {
            Run w = Steps.world(100, 100);
            Steps.lose(w, 0, 1, 7);
            Steps.bring(w, state);
            check.due("the log at state " + state, Steps.logOf(w, 0, 0), "0 1 1 1 7");
        }
    }

    /** "IndexOutOfBounds: also when there is none": from an empty log to a full one. */
    static void promise11NoSuchTransfer() {
        Run w = Steps.world(100, 100);
        for (int count = 0; count <= 5; count++) {
            check.bounds("log(0, i, 0) of " + count, w, 0, count - 1, Steps.BOUNDS, i -> w.log(0, i, 0));
            if (count < 5) {
                Steps.lose(w, 0, 1, 1);
            }
        }
    }

    /** A transfer that the purse still has is not one of its log. */
    static void promise11NotWhatItDoes() {
        Run w = Steps.world(100, 100);
        Steps.go(w, 0, 1, 5, 3);
        check.refused("log(0, 0, 0) of a PAID purse", w, Steps.BOUNDS, () -> w.log(0, 0, 0));
        check.refused("log(1, 0, 0) of a PAYEE", w, Steps.BOUNDS, () -> w.log(1, 0, 0));
    }

    static void promise11NoSuchPurse() {
        Run w = Steps.world(100, 20);
        Steps.lose(w, 0, 1, 1);
        check.bounds("log(p, 0, 0)", w, 0, 1, Steps.BOUNDS, p -> w.log(p, 0, 0));
    }

    static void promise11What() {
        Run w = Steps.world(100, 20);
        Steps.lose(w, 0, 1, 1);
        check.bounds("log(0, 0, what)", w, 0, 4, Steps.ARGUMENT, what -> w.log(0, 0, what));
    }

    static void promise11WhichComesFirst() {
        Run w = Steps.world(100, 20);
        Steps.lose(w, 0, 1, 1);
        check.refused("log(0, 1, 5)", w, Steps.BOUNDS, () -> w.log(0, 1, 5));
        check.refused("log(0, -1, -1)", w, Steps.BOUNDS, () -> w.log(0, -1, -1));
        check.refused("log(2, 0, 5)", w, Steps.BOUNDS, () -> w.log(2, 0, 5));
    }

    public static void main(String[] args) {
        check.runPromises(LogsTest.class);
    }
}
