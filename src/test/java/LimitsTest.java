/** There are 800 messages at most: what promises 3, 4, 6, 7, 12 and 13 say when there is just room for more, and when there is not. */
public final class LimitsTest {
    private static final int MOST = 800;
    private static final Check check = new Check();

    /** Purses 0 and 1 are the test's; 2 and 3 fill the messages. */
    private static Run world() {
        return Steps.world(100, 100, 100, 100);
    }

    /** Sends messages until just so many more may be sent. */
    private static void leave(Run w, int left) {
        int earn = w.begin(2, 3, 1) + 1;
        w.deliver(earn);
        w.abort(3);
        while (MOST - w.messages() - left >= 2) {
            w.begin(2, 3, 1);
        }
        if (MOST - w.messages() > left) {
            w.readLog(3);
        }
        check.due("messages()", w.messages(), MOST - left);
    }

    /** "MESSAGES have numbers 0, 1, .., 800 at most." */
    static void promise3FourHundredBegins() {
        Run w = Steps.world(100, 20);
        for (int i = 0; i < 400; i++) {
            check.due("begin " + i, w.begin(0, 1, 1), 2 * i);
        }
        check.refused("begin(0, 1, 1)", w, Steps.UNSUPPORTED, () -> w.begin(0, 1, 1));
    }

    /** It sends two: with two left it does, with one left it does not. */
    static void promise3BeginNeedsTwo() {
        Run w = world();
        leave(w, 2);
        check.due("begin with two left", w.begin(0, 1, 1), 798);
        check.refused("begin with none left", w, Steps.UNSUPPORTED, () -> w.begin(0, 1, 1));
        Run v = world();
        leave(v, 1);
        check.refused("begin with one left", v, Steps.UNSUPPORTED, () -> v.begin(0, 1, 1));
        check.due("messages()", v.messages(), 799);
    }

    /** "Of several that a call names, the first one." */
    static void promise3WhichComesFirst() {
        Run w = world();
        leave(w, 0);
        check.refused("begin(4, 4, 0)", w, Steps.BOUNDS, () -> w.begin(4, 4, 0));
        check.refused("begin(0, -1, 1)", w, Steps.BOUNDS, () -> w.begin(0, -1, 1));
        check.refused("begin(0, 0, 1)", w, Steps.ARGUMENT, () -> w.begin(0, 0, 1));
        check.refused("begin(0, 1, 0)", w, Steps.ARGUMENT, () -> w.begin(0, 1, 0));
        check.refused("begin(0, 1, 1000001)", w, Steps.ARGUMENT, () -> w.begin(0, 1, 1000001));
    }

    /** PAY sends nothing: it is taken, or not, with none left. */
    static void promise4PayNeedsNone() {
        Run w = world();
        w.begin(0, 1, 5);
        w.begin(0, 1, 101);
        leave(w, 0);
        check.due("PAY of too much", w.deliver(2), false);
        check.due("PAY", w.deliver(0), true);
        check.due("the payer", Steps.toldOf(w, 0), "100 2 1 0");
        check.due("PAY of too much ends that", w.deliver(2), false);
        check.due("the payer then", Steps.toldOf(w, 0), "100 3 0 0");
    }

    /** "If the message that comes would be taken, and one sent for it." */
    static void promise4EarnNeedsOne() {
        Run w = world();
        w.begin(0, 1, 5);
        leave(w, 1);
        check.due("EARN with one left", w.deliver(1), true);
        check.due("the last message", Steps.messageOf(w, 799), "0 1 1 1 5 2 0");
        check.refused("EARN with none left", w, Steps.UNSUPPORTED, () -> w.deliver(1));
    }

    /** "For messages 1 also if it would not": its log is full. */
    static void promise4EarnNeedsOneEvenIfNotTaken() {
        Run w = world();
        Steps.lose(w, 0, 1, 1, 5);
        leave(w, 1);
        check.due("EARN with a full log and one left", w.deliver(1), false);
        check.due("messages()", w.messages(), 799);
        Run v = world();
        Steps.lose(v, 0, 1, 1, 5);
        leave(v, 0);
        check.refused("EARN with a full log and none left", v, Steps.UNSUPPORTED, () -> v.deliver(1));
    }

    /** It is refused before anything ends: at every state, and when the log would be full by it. */
    static void promise4EarnRefusedEndsNothing() {
        for (int state = 0; state <= 3; state++) {
            Run w = world();
            int earn = w.begin(1, 0, 5) + 1;
            Steps.bring(w, state);
            leave(w, 0);
            check.refused("EARN at state " + state, w, Steps.UNSUPPORTED, () -> w.deliver(earn));
            check.due("the state", w.told(0, 2), state);
        }
        Run w = world();
        Steps.lose(w, 0, 1, 1, 4);
        Steps.go(w, 0, 1, 1, 2);
        leave(w, 0);
        check.due("the payee", Steps.toldOf(w, 1), "100 10 2 4");
        check.refused("EARN that would fill the log", w, Steps.UNSUPPORTED, () -> w.deliver(1));
    }

    static void promise4AskNeedsOne() {
        Run w = world();
        Steps.go(w, 0, 1, 5, 2);
        leave(w, 1);
        check.due("ASK with one left", w.deliver(2), true);
        check.due("the last message", Steps.messageOf(w, 799), "0 1 1 1 5 3 1");
        Run v = world();
        Steps.go(v, 0, 1, 5, 2);
        leave(v, 0);
        check.refused("ASK with none left", v, Steps.UNSUPPORTED, () -> v.deliver(2));
        check.due("the payer", Steps.toldOf(v, 0), "100 2 1 0");
    }

    /** ASK that would not be taken is just that, with none left too. */
    static void promise4AskNotTakenNeedsNone() {
        Run w = world();
        Steps.go(w, 0, 1, 5, 2);
        w.deliver(1);
        w.abort(0);
        leave(w, 0);
        check.due("ASK to an idle purse", w.deliver(2), false);
        w.deliver(0);
        check.due("ASK of another transfer", w.deliver(3), false);
    }

    static void promise4ValueNeedsOne() {
        Run w = world();
        Steps.go(w, 0, 1, 5, 3);
        leave(w, 1);
        check.due("VALUE with one left", w.deliver(3), true);
        check.due("the last message", Steps.messageOf(w, 799), "0 1 1 1 5 4 0");
        Run v = world();
        Steps.go(v, 0, 1, 5, 3);
        leave(v, 0);
        check.refused("VALUE with none left", v, Steps.UNSUPPORTED, () -> v.deliver(3));
        check.due("the payee", Steps.toldOf(v, 1), "100 2 2 0");
    }

    static void promise4ValueNotTakenNeedsNone() {
        Run w = world();
        Steps.go(w, 0, 1, 5, 3);
        int earn = w.begin(0, 1, 5) + 1;
        w.abort(1);
        w.deliver(earn);
        leave(w, 0);
        check.due("VALUE of another transfer", w.deliver(3), false);
        w.abort(1);
        check.due("VALUE to an idle purse", w.deliver(3), false);
    }

    static void promise4ThanksNeedsNone() {
        Run w = world();
        Steps.go(w, 0, 1, 5, 4);
        leave(w, 0);
        check.due("THANKS", w.deliver(4), true);
        check.due("the payer", Steps.toldOf(w, 0), "95 2 0 0");
        check.due("THANKS again", w.deliver(4), false);
    }

    static void promise4RecordAndClearNeedNone() {
        Run w = world();
        Steps.lose(w, 0, 1, 5);
        Steps.tell(w, 0);
        int clear = w.authorise(0);
        w.readLog(1);
        leave(w, 0);
        check.due("RECORD", w.deliver(clear + 1), true);
        check.due("RECORD again", w.deliver(clear + 1), false);
        check.due("CLEAR", w.deliver(clear), true);
        check.due("CLEAR again", w.deliver(clear), false);
        check.due("refund(0)", w.refund(0), 100);
    }

    /** The first is a PAY and the last a RECORD, which need no room; behind that there is none, room or not. */
    static void promise4NoSuchMessage() {
        Run w = world();
        leave(w, 0);
        check.bounds("deliver(i)", w, 0, 799, Steps.BOUNDS, w::deliver);
    }

    /** It sends one for each of the log: with as many left it does, with one less it does not, and sends none of them. */
    static void promise6ReadLogNeedsOneForEach() {
        for (int kept = 1; kept <= 5; kept++) {
            Run w = world();
            Steps.lose(w, 0, 1, 1, kept);
            leave(w, kept);
            check.due("readLog of " + kept + " with " + kept + " left", w.readLog(0), kept);
            check.due("messages()", w.messages(), 800);
            Run v = world();
            Steps.lose(v, 0, 1, 1, kept);
            leave(v, kept - 1);
            check.refused("readLog of " + kept + " with one less left", v, Steps.UNSUPPORTED, () -> v.readLog(0));
        }
    }

    static void promise6AnEmptyLogNeedsNone() {
        Run w = world();
        leave(w, 0);
        check.due("readLog of an empty log", w.readLog(0), 0);
        check.due("messages()", w.messages(), 800);
    }

    static void promise6WhichComesFirst() {
        Run w = world();
        Steps.lose(w, 0, 1, 1);
        w.deliver(0);
        leave(w, 0);
        check.refused("readLog(4)", w, Steps.BOUNDS, () -> w.readLog(4));
        check.refused("readLog of a PAYER", w, Steps.STATE, () -> w.readLog(0));
        check.refused("readLog of an idle purse", w, Steps.UNSUPPORTED, () -> w.readLog(1));
    }

    static void promise7AuthoriseNeedsOne() {
        Run w = world();
        Steps.lose(w, 0, 1, 5);
        Steps.tell(w, 0);
        leave(w, 1);
        check.due("authorise with one left", w.authorise(0), 799);
        check.refused("authorise with none left", w, Steps.UNSUPPORTED, () -> w.authorise(0));
        check.due("CLEAR as the last message", w.deliver(799), true);
    }

    static void promise7WhichComesFirst() {
        Run w = world();
        Steps.lose(w, 0, 1, 5);
        Steps.tell(w, 0);
        leave(w, 0);
        check.refused("authorise(4)", w, Steps.BOUNDS, () -> w.authorise(4));
        check.refused("authorise of a purse that told nothing", w, Steps.STATE, () -> w.authorise(1));
        check.refused("authorise of one that told", w, Steps.UNSUPPORTED, () -> w.authorise(0));
    }

    static void promise12EightHundredAtMost() {
        Run w = world();
        leave(w, 1);
        check.due("messages() with one left", w.messages(), 799);
        w.deliver(1);
        check.due("messages() with none left", w.messages(), 800);
        check.refused("one more", w, Steps.UNSUPPORTED, () -> w.deliver(1));
        check.due("messages() after a refused one", w.messages(), 800);
    }

    static void promise13TheLastMessage() {
        Run w = world();
        leave(w, 0);
        check.bounds("message(i, 5)", w, 0, 799, Steps.BOUNDS, i -> w.message(i, 5));
    }

    public static void main(String[] args) {
        check.runPromises(LimitsTest.class);
    }
}
