/** Runs of calls that many tests begin with. */
final class Steps {
    static final int IDLE = 0;
    static final int PAYER = 1;
    static final int PAYEE = 2;
    static final int PAID = 3;

    static final Class<IndexOutOfBoundsException> BOUNDS = IndexOutOfBoundsException.class;
    static final Class<IllegalArgumentException> ARGUMENT = IllegalArgumentException.class;
    static final Class<IllegalStateException> STATE = IllegalStateException.class;
    static final Class<UnsupportedOperationException> UNSUPPORTED = UnsupportedOperationException.class;

    private Steps() {
    }

    static PurseWorld world(int... balances) {
        PurseWorld w = new PurseWorld();
        for (int balance : balances) {
            w.purse(balance);
        }
        return w;
    }

    /** Begins a transfer and delivers the first so many of its messages, which follow one another. */
    static int go(PurseWorld w, int payer, int payee, int amount, int deliveries) {
        int first = w.begin(payer, payee, amount);
        for (int i = 0; i < deliveries; i++) {
            w.deliver(first + i);
        }
        return first;
    }

    /** The payer has paid, the payee waits, both give up: the transfer comes to both logs. */
    static void lose(PurseWorld w, int payer, int payee, int amount) {
        go(w, payer, payee, amount, 3);
        w.abort(payer);
        w.abort(payee);
    }

    /** All of a purse's log comes to the archive. */
    static void tell(PurseWorld w, int purse) {
        int first = w.messages();
        int count = w.readLog(purse);
        for (int i = 0; i < count; i++) {
            w.deliver(first + i);
        }
    }

    /** Sends messages in pairs until so many are left to be sent: one more, if an odd number of them is too much. */
    static void leaveRoom(PurseWorld w, int left) {
        while (800 - w.messages() - left >= 2) {
            w.begin(0, 1, 1);
        }
    }

    static String transferOf(PurseWorld w, int purse) {
        StringBuilder s = new StringBuilder();
        for (int what = 0; what <= 4; what++) {
            s.append(what == 0 ? "" : " ").append(w.transfer(purse, what));
        }
        return s.toString();
    }

    static String logOf(PurseWorld w, int purse, int i) {
        StringBuilder s = new StringBuilder();
        for (int what = 0; what <= 4; what++) {
            s.append(what == 0 ? "" : " ").append(w.log(purse, i, what));
        }
        return s.toString();
    }

    static String messageOf(PurseWorld w, int i) {
        StringBuilder s = new StringBuilder();
        for (int what = 0; what <= 6; what++) {
            s.append(what == 0 ? "" : " ").append(w.message(i, what));
        }
        return s.toString();
    }

    static String entryOf(PurseWorld w, int k) {
        StringBuilder s = new StringBuilder();
        for (int what = 0; what <= 6; what++) {
            s.append(what == 0 ? "" : " ").append(w.entry(k, what));
        }
        return s.toString();
    }

    static String toldOf(PurseWorld w, int purse) {
        StringBuilder s = new StringBuilder();
        for (int what = 0; what <= 3; what++) {
            s.append(what == 0 ? "" : " ").append(w.told(purse, what));
        }
        return s.toString();
    }
}
