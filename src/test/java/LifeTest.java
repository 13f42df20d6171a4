/** "An object is used for at most 512 calls after it has been made": all promises hold up to the last of them. */
public final class LifeTest {
    private static final int MOST_CALLS = Run.MOST_CALLS;
    private static final Check check = new Check();

    /** As many transfers as can be made, one after the other, on one object. */
    static void promise4TransfersToTheLastCall() {
        PurseWorld w = new PurseWorld();
        w.purse(1000000000);
        w.purse(1000000000);
        int calls = 2;
        int done = 0;
        while (calls + 6 <= MOST_CALLS) {
            int first = w.begin(0, 1, 1000000);
            for (int i = 0; i < 5; i++) {
                check.due("message " + i + " of transfer " + done, w.deliver(first + i), true);
            }
            done++;
            calls += 6;
        }
        check.due("transfers", done, 85);
        check.due("calls", calls, MOST_CALLS);
    }

    /** The last call of all tells what all those before it have brought. */
    static void promise16TheLastCall() {
        PurseWorld w = new PurseWorld();
        w.purse(1000000000);
        w.purse(1000000000);
        int calls = 2;
        for (int done = 0; done < 84; done++) {
            int first = w.begin(0, 1, 1000000);
            for (int i = 0; i < 5; i++) {
                w.deliver(first + i);
            }
            calls += 6;
        }
        w.deliver(w.begin(0, 1, 1000000));
        calls += 2;
        check.due("the payer's balance", w.told(0, 0), 916000000);
        check.due("its serial", w.told(0, 1), 86);
        check.due("the payee's balance", w.told(1, 0), 1084000000);
        calls += 3;
        check.due("call " + (calls + 1) + ", balances()", w.balances(), 2000000000L);
    }

    /** The greatest number of messages and, in the calls that are left, the last that is refused. */
    static void promise12TheLastMessageAndTheLastCall() {
        PurseWorld w = new PurseWorld();
        w.purse(1);
        w.purse(1);
        for (int i = 0; i < 400; i++) {
            w.begin(0, 1, 1);
        }
        int refused = 0;
        for (int calls = 402; calls < MOST_CALLS - 1; calls++) {
            try {
                w.deliver(799);
            } catch (UnsupportedOperationException e) {
                refused++;
            }
        }
        check.due("refused", refused, 109);
        check.due("call 512, messages()", w.messages(), 800);
    }

    /** As many entries as can be made: logs are filled, told and cleared over and over. */
    static void promise14TheMostEntries() {
        PurseWorld w = new PurseWorld();
        w.purse(0);
        w.purse(0);
        w.begin(0, 1, 1);
        int calls = 3;
        int messages = 2;
        int entries = 0;
        while (calls + 14 < MOST_CALLS) {
            for (int i = 0; i < 5; i++) {
                w.deliver(1);
            }
            w.abort(1);
            messages += 5;
            check.due("readLog(1)", w.readLog(1), 5);
            for (int i = 0; i < 5; i++) {
                check.due("RECORD", w.deliver(messages + i), true);
            }
            messages += 5;
            entries += 5;
            check.due("authorise(1)", w.authorise(1), messages);
            check.due("CLEAR", w.deliver(messages), true);
            messages++;
            calls += 14;
        }
        check.due("entries of rounds", entries, 180);
        check.due("call " + (calls + 1) + ", entries()", w.entries(), 180);
    }

    public static void main(String[] args) {
        check.runPromises(LifeTest.class);
    }
}
