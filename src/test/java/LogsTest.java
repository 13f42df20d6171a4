/** Promises 5 (abort), 6 (readLog), 11 (log). */
public final class LogsTest {
    private static final Check check = new Check();

    private static void promise5Abort() {
        PurseWorld w = Steps.world(100, 20);
        check.due("abort of an idle purse", w.abort(0), Steps.IDLE);
        check.due("it stays as it is", Steps.toldOf(w, 0), "100 1 0 0");
        w.begin(0, 1, 30);
        w.deliver(0);
        check.due("abort as PAYER", w.abort(0), Steps.PAYER);
        check.due("nothing comes to its log", Steps.toldOf(w, 0), "100 3 0 0");
        w.deliver(1);
        check.due("abort as PAYEE", w.abort(1), Steps.PAYEE);
        check.due("its transfer comes to the log", Steps.toldOf(w, 1), "20 3 0 1");
        check.due("it has none then", Steps.transferOf(w, 1), "-1 -1 -1 -1 -1");
        Steps.go(w, 0, 1, 30, 3);
        check.due("abort as PAID", w.abort(0), Steps.PAID);
        check.due("its transfer comes to the log", Steps.toldOf(w, 0), "70 5 0 1");
        check.due("abort again", w.abort(0), Steps.IDLE);
        check.due("the serial stays", Steps.toldOf(w, 0), "70 5 0 1");
        for (int purse : new int[] {-1, 2, Integer.MAX_VALUE, Integer.MIN_VALUE}) {
            check.refused("abort(" + purse + ")", w, Steps.BOUNDS, () -> w.abort(purse));
        }
    }

    private static void promise6ReadLog() {
        PurseWorld w = Steps.world(100, 20, 0);
        check.due("readLog of an empty log", w.readLog(2), 0);
        check.due("messages()", w.messages(), 0);
        Steps.lose(w, 0, 1, 30);
        Steps.lose(w, 1, 0, 4);
        int first = w.messages();
        check.due("readLog(0)", w.readLog(0), 2);
        check.due("messages()", w.messages(), first + 2);
        check.due("the first", Steps.messageOf(w, first), "0 1 1 1 30 5 -1");
        check.due("the second", Steps.messageOf(w, first + 1), "1 3 0 3 4 5 -1");
        check.due("the log stays", w.told(0, 3), 2);
        check.due("again", w.readLog(0), 2);
        check.due("messages() then", w.messages(), first + 4);
        for (int purse : new int[] {-1, 3, Integer.MAX_VALUE, Integer.MIN_VALUE}) {
            check.refused("readLog(" + purse + ")", w, Steps.BOUNDS, () -> w.readLog(purse));
        }
    }

    private static void promise6OnlyWhenIdle() {
        PurseWorld w = Steps.world(100, 20);
        int first = Steps.go(w, 0, 1, 30, 2);
        check.refused("readLog of a PAYER", w, Steps.STATE, () -> w.readLog(0));
        check.refused("readLog of a PAYEE", w, Steps.STATE, () -> w.readLog(1));
        w.deliver(first + 2);
        check.refused("readLog of a PAID purse", w, Steps.STATE, () -> w.readLog(0));
    }

    private static void promise11Log() {
        PurseWorld w = Steps.world(100, 20);
        check.refused("log(0, 0, 0) of an empty log", w, Steps.BOUNDS, () -> w.log(0, 0, 0));
        Steps.lose(w, 0, 1, 30);
        Steps.lose(w, 1, 0, 4);
        Steps.lose(w, 0, 1, 2);
        String[] due = {"0 1 1 1 30", "1 3 0 3 4", "0 5 1 5 2"};
        for (int i = 0; i < due.length; i++) {
            check.due("log(0, " + i + ")", Steps.logOf(w, 0, i), due[i]);
            check.due("log(1, " + i + ")", Steps.logOf(w, 1, i), due[i]);
        }
        for (int what : new int[] {-1, 5, Integer.MAX_VALUE, Integer.MIN_VALUE}) {
            check.refused("log(0, 2, " + what + ")", w, Steps.ARGUMENT, () -> w.log(0, 2, what));
        }
        for (int i : new int[] {-1, 3, 5, Integer.MAX_VALUE, Integer.MIN_VALUE}) {
            check.refused("log(0, " + i + ", 0)", w, Steps.BOUNDS, () -> w.log(0, i, 0));
            check.refused("log(0, " + i + ", 5)", w, Steps.BOUNDS, () -> w.log(0, i, 5));
        }
        for (int purse : new int[] {-1, 2, Integer.MAX_VALUE, Integer.MIN_VALUE}) {
            check.refused("log(" + purse + ", 0, 0)", w, Steps.BOUNDS, () -> w.log(purse, 0, 0));
        }
    }

    public static void main(String[] args) {
        promise5Abort();
        promise6ReadLog();
        promise6OnlyWhenIdle();
        promise11Log();
        check.end();
    }
}
