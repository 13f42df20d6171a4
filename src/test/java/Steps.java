import java.util.function.IntUnaryOperator;

/** Runs of calls that many tests begin with, and what is told of one thing as one text. */
final class Steps {
    static final int IDLE = 0;
    static final int PAYER = 1;
    static final int PAYEE = 2;
    static final int PAID = 3;

    static final String NO_TRANSFER = "-1 -1 -1 -1 -1";

    static final Class<IndexOutOfBoundsException> BOUNDS = IndexOutOfBoundsException.class;
    static final Class<IllegalArgumentException> ARGUMENT = IllegalArgumentException.class;
    static final Class<IllegalStateException> STATE = IllegalStateException.class;
    static final Class<UnsupportedOperationException> UNSUPPORTED = UnsupportedOperationException.class;

    private Steps() {
    }

    static Run world(int... balances) {
        Run w = new Run();
        for (int balance : balances) {
            w.purse(balance);
        }
        return w;
    }

    /** Begins a transfer and delivers the first so many of its messages, which follow one another. */
    static int go(Run w, int payer, int payee, int amount, int deliveries) {
        int first = w.begin(payer, payee, amount);
        for (int i = 0; i < deliveries; i++) {
            w.deliver(first + i);
        }
        return first;
    }

    /** Purse 0 comes to a state, with purse 1 on the other side and an amount of 5. */
    static void bring(Run w, int state) {
        if (state == PAYER) {
            go(w, 0, 1, 5, 1);
        } else if (state == PAID) {
            go(w, 0, 1, 5, 3);
        } else if (state == PAYEE) {
            w.deliver(w.begin(1, 0, 5) + 1);
        }
    }

    /** The payer has paid, the payee waits, both give up: the transfer comes to both logs. */
    static void lose(Run w, int payer, int payee, int amount) {
        go(w, payer, payee, amount, 3);
        w.abort(payer);
        w.abort(payee);
    }

    static void lose(Run w, int payer, int payee, int amount, int times) {
        for (int i = 0; i < times; i++) {
            lose(w, payer, payee, amount);
        }
    }

    /** All of a purse's log comes to the archive. */
    static void tell(Run w, int purse) {
        int first = w.messages();
        int count = w.readLog(purse);
        for (int i = 0; i < count; i++) {
            w.deliver(first + i);
        }
    }

    /** Parts 0 to the last one, with a space between them. */
    private static String parts(int last, IntUnaryOperator part) {
        StringBuilder s = new StringBuilder();
        for (int what = 0; what <= last; what++) {
            s.append(what == 0 ? "" : " ").append(part.applyAsInt(what));
        }
        return s.toString();
    }

    static String toldOf(Run w, int purse) {
        return parts(3, what -> w.told(purse, what));
    }

    static String transferOf(Run w, int purse) {
        return parts(4, what -> w.transfer(purse, what));
    }

    static String logOf(Run w, int purse, int i) {
        return parts(4, what -> w.log(purse, i, what));
    }

    static String messageOf(Run w, int i) {
        return parts(6, what -> w.message(i, what));
    }

    static String entryOf(Run w, int k) {
        return parts(6, what -> w.entry(k, what));
    }
}
