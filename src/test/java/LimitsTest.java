/** There are 800 messages at most: what promises 3, 4, 6 and 7 say when there is no room for more. */
public final class LimitsTest {
    private static final Check check = new Check();

    private static void promise3BeginNeedsTwo() {
        PurseWorld w = Steps.world(100, 20);
        for (int i = 0; i < 400; i++) {
            check.due("begin " + i, w.begin(0, 1, 1), 2 * i);
        }
        check.due("messages()", w.messages(), 800);
        check.refused("begin(0, 1, 1)", w, Steps.UNSUPPORTED, () -> w.begin(0, 1, 1));
        check.refused("begin(0, 0, 1)", w, Steps.ARGUMENT, () -> w.begin(0, 0, 1));
        check.refused("begin(0, 1, 0)", w, Steps.ARGUMENT, () -> w.begin(0, 1, 0));
        check.refused("begin(2, 2, 0)", w, Steps.BOUNDS, () -> w.begin(2, 2, 0));
        check.due("the last message", Steps.messageOf(w, 799), "0 1 1 0 1 1 1");
        check.refused("message(800, 0)", w, Steps.BOUNDS, () -> w.message(800, 0));
    }

    private static void promise3BeginWithOneLeft() {
        PurseWorld w = Steps.world(100, 20);
        w.begin(0, 1, 1);
        w.deliver(1);
        Steps.leaveRoom(w, 1);
        check.due("messages()", w.messages(), 799);
        check.refused("begin(0, 1, 1)", w, Steps.UNSUPPORTED, () -> w.begin(0, 1, 1));
        check.due("EARN still sends one", w.deliver(1), true);
        check.due("messages()", w.messages(), 800);
        check.refused("EARN again", w, Steps.UNSUPPORTED, () -> w.deliver(1));
    }

    private static void promise4PayAndThanksNeedNone() {
        PurseWorld w = Steps.world(100, 20);
        Steps.go(w, 0, 1, 5, 4);
        check.due("messages() before", w.messages(), 5);
        w.deliver(1);
        Steps.leaveRoom(w, 0);
        check.due("messages()", w.messages(), 800);
        check.due("THANKS", w.deliver(4), true);
        check.due("PAY", w.deliver(0), true);
        check.due("the payer", w.told(0, 2), Steps.PAYER);
        check.due("an ASK that is not taken", w.deliver(2), false);
        check.due("a VALUE that is not taken", w.deliver(3), false);
        check.due("a THANKS that is not taken", w.deliver(4), false);
    }

    private static void promise4EarnNeedsOneAlways() {
        PurseWorld w = Steps.world(100, 20);
        w.begin(0, 1, 1);
        for (int i = 0; i < 6; i++) {
            w.deliver(1);
        }
        check.due("the payee's log is full", Steps.toldOf(w, 1), "20 11 0 5");
        w.readLog(1);
        Steps.leaveRoom(w, 2);
        check.due("EARN is not taken while there is room", w.deliver(1), false);
        Steps.leaveRoom(w, 0);
        check.due("messages()", w.messages(), 800);
        check.refused("EARN that would not be taken", w, Steps.UNSUPPORTED, () -> w.deliver(1));
    }

    private static void promise4EarnThatWouldEndSomething() {
        PurseWorld w = Steps.world(100, 20, 0);
        w.begin(0, 1, 1);
        for (int i = 0; i < 5; i++) {
            w.deliver(1);
        }
        w.deliver(w.begin(0, 2, 1) + 1);
        check.due("the payee's log is full with what it does", Steps.toldOf(w, 1), "20 10 2 4");
        Steps.leaveRoom(w, 0);
        check.due("messages()", w.messages(), 800);
        check.refused("EARN that would end it", w, Steps.UNSUPPORTED, () -> w.deliver(1));
    }

    private static void promise4AskNeedsOneIfTaken() {
        PurseWorld w = Steps.world(100, 20);
        w.begin(0, 1, 5);
        w.deliver(1);
        w.abort(1);
        w.deliver(1);
        Steps.leaveRoom(w, 0);
        check.due("messages()", w.messages(), 800);
        check.due("ASK to an idle purse", w.deliver(2), false);
        w.deliver(0);
        check.refused("ASK to the payer", w, Steps.UNSUPPORTED, () -> w.deliver(2));
        check.due("ASK of another transfer", w.deliver(3), false);
    }

    private static void promise4ValueNeedsOneIfTaken() {
        PurseWorld w = Steps.world(100, 20);
        Steps.go(w, 0, 1, 5, 3);
        Steps.leaveRoom(w, 0);
        check.due("messages()", w.messages(), 800);
        check.refused("VALUE to the payee", w, Steps.UNSUPPORTED, () -> w.deliver(3));
        w.abort(1);
        check.due("VALUE to a payee that gave up", w.deliver(3), false);
        check.refused("deliver(800)", w, Steps.BOUNDS, () -> w.deliver(800));
    }

    private static void promise4RecordAndClearNeedNone() {
        PurseWorld w = Steps.world(100, 20);
        Steps.lose(w, 0, 1, 5);
        Steps.lose(w, 0, 1, 6);
        w.readLog(0);
        w.deliver(8);
        w.deliver(9);
        w.authorise(0);
        w.readLog(1);
        w.authorise(0);
        Steps.leaveRoom(w, 0);
        check.due("messages()", w.messages(), 800);
        check.due("RECORD", w.deliver(11), true);
        check.due("CLEAR", w.deliver(10), true);
    }

    private static void promise6ReadLogNeedsOneForEach() {
        PurseWorld w = Steps.world(100, 20);
        Steps.lose(w, 0, 1, 5);
        Steps.lose(w, 0, 1, 6);
        Steps.leaveRoom(w, 2);
        check.due("messages()", w.messages(), 798);
        w.deliver(0);
        check.refused("readLog of a PAYER", w, Steps.STATE, () -> w.readLog(0));
        w.abort(0);
        check.due("readLog(0)", w.readLog(0), 2);
        check.due("messages()", w.messages(), 800);
        check.refused("readLog(1)", w, Steps.UNSUPPORTED, () -> w.readLog(1));
        check.refused("readLog(2)", w, Steps.BOUNDS, () -> w.readLog(2));
        check.due("RECORD", w.deliver(798), true);
        check.refused("authorise(0)", w, Steps.UNSUPPORTED, () -> w.authorise(0));
        check.refused("authorise(1)", w, Steps.STATE, () -> w.authorise(1));
        check.refused("authorise(2)", w, Steps.BOUNDS, () -> w.authorise(2));
    }

    private static void promise6ReadLogWithTooFewLeft() {
        PurseWorld w = Steps.world(100, 20, 1);
        Steps.lose(w, 0, 1, 5);
        Steps.lose(w, 0, 1, 6);
        w.begin(2, 1, 1);
        w.deliver(9);
        w.abort(1);
        Steps.leaveRoom(w, 1);
        check.due("messages()", w.messages(), 799);
        check.refused("readLog of two", w, Steps.UNSUPPORTED, () -> w.readLog(0));
        check.due("readLog of an empty log", w.readLog(2), 0);
        w.deliver(9);
        check.due("messages()", w.messages(), 800);
        check.due("readLog of an empty log with none left", w.readLog(2), 0);
        check.refused("readLog of a PAYEE with none left", w, Steps.STATE, () -> w.readLog(1));
    }

    private static void promise7AuthoriseNeedsOne() {
        PurseWorld w = Steps.world(100, 20);
        Steps.lose(w, 0, 1, 5);
        Steps.tell(w, 0);
        Steps.leaveRoom(w, 1);
        check.due("authorise(0)", w.authorise(0), 799);
        check.refused("authorise(0) again", w, Steps.UNSUPPORTED, () -> w.authorise(0));
        check.due("CLEAR", w.deliver(799), true);
    }

    public static void main(String[] args) {
        promise3BeginNeedsTwo();
        promise3BeginWithOneLeft();
        promise4PayAndThanksNeedNone();
        promise4EarnNeedsOneAlways();
        promise4EarnThatWouldEndSomething();
        promise4AskNeedsOneIfTaken();
        promise4ValueNeedsOneIfTaken();
        promise4RecordAndClearNeedNone();
        promise6ReadLogNeedsOneForEach();
        promise6ReadLogWithTooFewLeft();
        promise7AuthoriseNeedsOne();
        check.end();
    }
}
