import java.util.ArrayList;

/** Purses that pay one another by messages which may be lost, come late, or come again. */
public final class PurseWorld {
    public static final int NONE = -1;

    private static final int MOST_PURSES = 12;
    private static final int MOST_MESSAGES = 800;
    private static final int MOST_LOGGED = 5;
    private static final int MOST_BALANCE = 1000000000;
    private static final int MOST_AMOUNT = 1000000;

    private static final int IDLE = 0;
    private static final int PAYER = 1;
    private static final int PAYEE = 2;
    private static final int PAID = 3;

    private static final int PAY = 0;
    private static final int EARN = 1;
    private static final int ASK = 2;
    private static final int VALUE = 3;
    private static final int THANKS = 4;
    private static final int RECORD = 5;
    private static final int CLEAR = 6;

    /** Stands where there is no transfer, so that every part of it is told as NONE. */
    private final Transfer nothing;
    private final ArrayList<Purse> owners;
    private final ArrayList<Message> sent;
    private final Archive archive;

    public PurseWorld() {
        nothing = new Transfer(NONE, NONE, NONE, NONE, NONE);
        owners = new ArrayList<Purse>();
        sent = new ArrayList<Message>();
        archive = new Archive();
    }

    public int purse(int balance) throws IllegalArgumentException, UnsupportedOperationException {
        if (balance < 0 || balance > MOST_BALANCE) {
            throw new IllegalArgumentException("no such balance");
        }
        if (owners.size() >= MOST_PURSES) {
            throw new UnsupportedOperationException("too many purses");
        }
        int number = owners.size();
        owners.add(new Purse(number, balance, nothing));
        return number;
    }

    public int begin(int payer, int payee, int amount)
            throws IndexOutOfBoundsException, IllegalArgumentException, UnsupportedOperationException {
        Purse from = purseAt(payer);
        Purse to = purseAt(payee);
        if (payer == payee) {
            throw new IllegalArgumentException("a purse cannot pay itself");
        }
        if (amount < 1 || amount > MOST_AMOUNT) {
            throw new IllegalArgumentException("no such amount");
        }
        needRoomFor(2);
        int first = send(PAY, payer, new Transfer(payer, 0, payee, to.serial, amount));
        send(EARN, payee, new Transfer(payer, from.serial, payee, 0, amount));
        return first;
    }

    public boolean deliver(int i) throws IndexOutOfBoundsException, UnsupportedOperationException {
        Message m = messageAt(i);
        if (mayBeAnswered(m)) {
            needRoomFor(1);
        }
        switch (m.kind) {
            case PAY:
                return takePay(m);
            case EARN:
                return takeEarn(m);
            case ASK:
                return takeAsk(m);
            case VALUE:
                return takeValue(m);
            case THANKS:
                return takeThanks(m);
            case RECORD:
                return archive.takeRecord(m.teller, m.terms);
            default:
                return takeClear(m);
        }
    }

    public int abort(int purse) throws IndexOutOfBoundsException {
        Purse p = purseAt(purse);
        int before = p.state;
        p.end();
        return before;
    }

    public int readLog(int purse)
            throws IndexOutOfBoundsException, IllegalStateException, UnsupportedOperationException {
        Purse p = purseAt(purse);
        if (p.state != IDLE) {
            throw new IllegalStateException("the purse is not idle");
        }
        int count = p.kept.size();
        needRoomFor(count);
        for (int i = 0; i < count; i++) {
            sent.add(new Message(RECORD, NONE, p.kept.get(i), purse, 0));
        }
        return count;
    }

    public int authorise(int purse)
            throws IndexOutOfBoundsException, IllegalStateException, UnsupportedOperationException {
        purseAt(purse);
        if (!archive.hasAnyOf(purse)) {
            throw new IllegalStateException("the archive has nothing of the purse");
        }
        needRoomFor(1);
        int number = sent.size();
        sent.add(new Message(CLEAR, purse, nothing, NONE, archive.size()));
        return number;
    }

    public int refund(int k) throws IndexOutOfBoundsException, IllegalStateException {
        Entry e = entryAt(k);
        if (!archive.has(e.terms.payer, e.terms) || !archive.has(e.terms.payee, e.terms)) {
            throw new IllegalStateException("one side has not told");
        }
        if (e.refunded) {
            throw new IllegalStateException("already refunded");
        }
        archive.markRefunded(e.terms);
        Purse payer = purseAt(e.terms.payer);
        payer.balance += e.terms.amount;
        return payer.balance;
    }

    public int told(int purse, int what) throws IndexOutOfBoundsException, IllegalArgumentException {
        Purse p = purseAt(purse);
        switch (what) {
            case 0:
                return p.balance;
            case 1:
                return p.serial;
            case 2:
                return p.state;
            case 3:
                return p.kept.size();
            default:
                throw new IllegalArgumentException("a purse tells 0 to 3");
        }
    }

    public int transfer(int purse, int what) throws IndexOutOfBoundsException, IllegalArgumentException {
        return partOf(purseAt(purse).current, what);
    }

    public int log(int purse, int i, int what) throws IndexOutOfBoundsException, IllegalArgumentException {
        Purse p = purseAt(purse);
        if (i < 0 || i >= p.kept.size()) {
            throw new IndexOutOfBoundsException("no such transfer in the log");
        }
        return partOf(p.kept.get(i), what);
    }

    public int messages() {
        return sent.size();
    }

    public int message(int i, int what) throws IndexOutOfBoundsException, IllegalArgumentException {
        Message m = messageAt(i);
        switch (what) {
            case 5:
                return m.kind;
            case 6:
                return m.to;
            default:
                return partOf(m.terms, what);
        }
    }

    public int entries() {
        return archive.size();
    }

    public int entry(int k, int what) throws IndexOutOfBoundsException, IllegalArgumentException {
        Entry e = entryAt(k);
        switch (what) {
            case 5:
                return e.teller;
            case 6:
                return e.refunded ? 1 : 0;
            default:
                return partOf(e.terms, what);
        }
    }

    public long balances() {
        long sum = 0;
        for (int i = 0; i < owners.size(); i++) {
            sum += owners.get(i).balance;
        }
        return sum;
    }

    /** Goes through what the payers' sides know, so that each transfer is met just once. */
    public long pending() {
        long sum = 0;
        for (int i = 0; i < owners.size(); i++) {
            sum += pendingOfPayer(owners.get(i));
        }
        for (int k = 0; k < archive.size(); k++) {
            Entry e = archive.rows.get(k);
            if (e.teller == e.terms.payer) {
                sum += amountIfPayeeWaits(e.terms);
            }
        }
        return sum;
    }

    public int purses() {
        return owners.size();
    }

    private Purse purseAt(int number) {
        if (number < 0 || number >= owners.size()) {
            throw new IndexOutOfBoundsException("no such purse");
        }
        return owners.get(number);
    }

    private Message messageAt(int number) {
        if (number < 0 || number >= sent.size()) {
            throw new IndexOutOfBoundsException("no such message");
        }
        return sent.get(number);
    }

    private Entry entryAt(int number) {
        if (number < 0 || number >= archive.size()) {
            throw new IndexOutOfBoundsException("no such entry");
        }
        return archive.rows.get(number);
    }

    private static int partOf(Transfer t, int what) {
        switch (what) {
            case 0:
                return t.payer;
            case 1:
                return t.payerSerial;
            case 2:
                return t.payee;
            case 3:
                return t.payeeSerial;
            case 4:
                return t.amount;
            default:
                throw new IllegalArgumentException("there is no such part");
        }
    }

    private void needRoomFor(int more) {
        if (sent.size() + more > MOST_MESSAGES) {
            throw new UnsupportedOperationException("too many messages");
        }
    }

    private int send(int kind, int to, Transfer terms) {
        int number = sent.size();
        sent.add(new Message(kind, to, terms, NONE, 0));
        return number;
    }

    /** EARN counts even when it would not be taken: the document refuses it whenever there is no room. */
    private boolean mayBeAnswered(Message m) {
        switch (m.kind) {
            case EARN:
                return true;
            case ASK:
                return purseAt(m.to).does(PAYER, m.terms);
            case VALUE:
                return purseAt(m.to).does(PAYEE, m.terms);
            default:
                return false;
        }
    }

    private boolean takePay(Message m) {
        Purse p = purseAt(m.to);
        Transfer t = m.terms;
        p.end();
        if (p.logIsFull() || p.balance < t.amount) {
            return false;
        }
        p.start(PAYER, new Transfer(p.number, p.serial, t.payee, t.payeeSerial, t.amount));
        return true;
    }

    private boolean takeEarn(Message m) {
        Purse p = purseAt(m.to);
        Transfer t = m.terms;
        p.end();
        if (p.logIsFull()) {
            return false;
        }
        p.start(PAYEE, new Transfer(t.payer, t.payerSerial, p.number, p.serial, t.amount));
        send(ASK, t.payer, p.current);
        return true;
    }

    private boolean takeAsk(Message m) {
        Purse p = purseAt(m.to);
        if (!p.does(PAYER, m.terms)) {
            return false;
        }
        p.balance -= m.terms.amount;
        p.state = PAID;
        send(VALUE, m.terms.payee, m.terms);
        return true;
    }

    private boolean takeValue(Message m) {
        Purse p = purseAt(m.to);
        if (!p.does(PAYEE, m.terms)) {
            return false;
        }
        p.balance += m.terms.amount;
        p.rest();
        send(THANKS, m.terms.payer, m.terms);
        return true;
    }

    private boolean takeThanks(Message m) {
        Purse p = purseAt(m.to);
        if (!p.does(PAID, m.terms)) {
            return false;
        }
        p.rest();
        return true;
    }

    private boolean takeClear(Message m) {
        Purse p = purseAt(m.to);
        if (p.state != IDLE || p.kept.isEmpty()) {
            return false;
        }
        for (int i = 0; i < p.kept.size(); i++) {
            if (!archive.hadAmong(m.archived, p.number, p.kept.get(i))) {
                return false;
            }
        }
        p.kept.clear();
        return true;
    }

    /** Leaves out what the archive has of the payer too: that is counted with the entries. */
    private long pendingOfPayer(Purse p) {
        long sum = p.state == PAID ? amountIfPayeeWaits(p.current) : 0;
        for (int i = 0; i < p.kept.size(); i++) {
            Transfer t = p.kept.get(i);
            if (t.payer == p.number && !archive.has(p.number, t)) {
                sum += amountIfPayeeWaits(t);
            }
        }
        return sum;
    }

    private long amountIfPayeeWaits(Transfer t) {
        Purse payee = purseAt(t.payee);
        boolean waits = payee.does(PAYEE, t) || payee.hasKept(t) || archive.has(t.payee, t);
        return waits && !archive.hasRefunded(t) ? t.amount : 0;
    }

    private static final class Transfer {
        final int payer;
        final int payerSerial;
        final int payee;
        final int payeeSerial;
        final int amount;

        Transfer(int payer, int payerSerial, int payee, int payeeSerial, int amount) {
            this.payer = payer;
            this.payerSerial = payerSerial;
            this.payee = payee;
            this.payeeSerial = payeeSerial;
            this.amount = amount;
        }

        boolean same(Transfer other) {
            return payer == other.payer && payerSerial == other.payerSerial
                    && payee == other.payee && payeeSerial == other.payeeSerial
                    && amount == other.amount;
        }
    }

    private static final class Purse {
        final int number;
        final Transfer nothing;
        final ArrayList<Transfer> kept;
        int balance;
        int serial;
        int state;
        Transfer current;

        Purse(int number, int balance, Transfer nothing) {
            this.number = number;
            this.balance = balance;
            this.nothing = nothing;
            kept = new ArrayList<Transfer>();
            serial = 1;
            state = IDLE;
            current = nothing;
        }

        boolean logIsFull() {
            return kept.size() >= MOST_LOGGED;
        }

        boolean does(int role, Transfer t) {
            return state == role && current.same(t);
        }

        boolean hasKept(Transfer t) {
            for (int i = 0; i < kept.size(); i++) {
                if (kept.get(i).same(t)) {
                    return true;
                }
            }
            return false;
        }

        void start(int role, Transfer t) {
            state = role;
            current = t;
            serial++;
        }

        void rest() {
            state = IDLE;
            current = nothing;
        }

        /** The log has a place here: no transfer starts while it is full, and only this method fills it. */
        void end() {
            if (state == IDLE) {
                return;
            }
            if (state == PAYEE || state == PAID) {
                kept.add(current);
            }
            serial++;
            rest();
        }
    }

    private static final class Message {
        final int kind;
        final int to;
        final Transfer terms;
        /** Whose log a RECORD is from. */
        final int teller;
        /** How many entries there were when a CLEAR was sent; none ever goes, so these are still the first ones. */
        final int archived;

        Message(int kind, int to, Transfer terms, int teller, int archived) {
            this.kind = kind;
            this.to = to;
            this.terms = terms;
            this.teller = teller;
            this.archived = archived;
        }
    }

    private static final class Entry {
        final int teller;
        final Transfer terms;
        boolean refunded;

        Entry(int teller, Transfer terms) {
            this.teller = teller;
            this.terms = terms;
        }
    }

    /** It has no limit of its own: each entry comes of another message. */
    private static final class Archive {
        final ArrayList<Entry> rows;

        Archive() {
            rows = new ArrayList<Entry>();
        }

        int size() {
            return rows.size();
        }

        boolean hadAmong(int first, int teller, Transfer t) {
            for (int k = 0; k < first && k < rows.size(); k++) {
                Entry e = rows.get(k);
                if (e.teller == teller && e.terms.same(t)) {
                    return true;
                }
            }
            return false;
        }

        boolean has(int teller, Transfer t) {
            return hadAmong(rows.size(), teller, t);
        }

        boolean hasAnyOf(int teller) {
            for (int k = 0; k < rows.size(); k++) {
                if (rows.get(k).teller == teller) {
                    return true;
                }
            }
            return false;
        }

        boolean hasRefunded(Transfer t) {
            for (int k = 0; k < rows.size(); k++) {
                Entry e = rows.get(k);
                if (e.refunded && e.terms.same(t)) {
                    return true;
                }
            }
            return false;
        }

        void markRefunded(Transfer t) {
            for (int k = 0; k < rows.size(); k++) {
                Entry e = rows.get(k);
                if (e.terms.same(t)) {
                    e.refunded = true;
                }
            }
        }

        boolean takeRecord(int teller, Transfer t) {
            if (has(teller, t)) {
                return false;
            }
            rows.add(new Entry(teller, t));
            return true;
        }
    }
}
