import java.util.ArrayList;
import java.util.HashSet;
import java.util.LinkedHashMap;
import java.util.List;
import java.util.Map;
import java.util.Set;

/** The document's words once more, as plainly as they can be said with sets: what the program is held against. */
final class PurseModel {
    record Transfer(int payer, int payerSerial, int payee, int payeeSerial, int amount) {
        int part(int what) {
            return new int[] {payer, payerSerial, payee, payeeSerial, amount}[what];
        }
    }

    record Told(int purse, Transfer transfer) {
    }

    record Sent(int kind, int to, int teller, Transfer transfer, Set<Told> archived) {
    }

    static final class Owner {
        int balance;
        int serial = 1;
        String state = "IDLE";
        Transfer transfer = null;
        List<Transfer> log = new ArrayList<>();

        boolean is(String wanted, Transfer t) {
            return state.equals(wanted) && transfer.equals(t);
        }

        void end() {
            if (state.equals("PAYEE") || state.equals("PAID")) {
                log.add(transfer);
            }
            if (!state.equals("IDLE")) {
                serial++;
            }
            state = "IDLE";
            transfer = null;
        }
    }

    private static final List<String> STATES = List.of("IDLE", "PAYER", "PAYEE", "PAID");

    final List<Owner> owners = new ArrayList<>();
    final List<Sent> sent = new ArrayList<>();
    final Map<Told, Integer> archive = new LinkedHashMap<>();
    final Set<Transfer> refunded = new HashSet<>();
    private final Set<Transfer> everMade = new HashSet<>();

    private static void unless(boolean fine, RuntimeException e) {
        if (!fine) {
            throw e;
        }
    }

    private Owner owner(int purse) {
        unless(purse >= 0 && purse < owners.size(), new IndexOutOfBoundsException());
        return owners.get(purse);
    }

    private Told entryAt(int k) {
        unless(k >= 0 && k < archive.size(), new IndexOutOfBoundsException());
        return new ArrayList<>(archive.keySet()).get(k);
    }

    private void room(int more) {
        unless(sent.size() + more <= 800, new UnsupportedOperationException());
    }

    private void what(int what, int last) {
        unless(what >= 0 && what <= last, new IllegalArgumentException());
    }

    long purse(int balance) {
        unless(balance >= 0 && balance <= 1_000_000_000, new IllegalArgumentException());
        unless(owners.size() < 12, new UnsupportedOperationException());
        Owner o = new Owner();
        o.balance = balance;
        owners.add(o);
        return owners.size() - 1;
    }

    long begin(int payer, int payee, int amount) {
        int payerSerial = owner(payer).serial;
        int payeeSerial = owner(payee).serial;
        unless(payer != payee && amount >= 1 && amount <= 1_000_000, new IllegalArgumentException());
        room(2);
        sent.add(new Sent(0, payer, -1, new Transfer(payer, 0, payee, payeeSerial, amount), null));
        sent.add(new Sent(1, payee, -1, new Transfer(payer, payerSerial, payee, 0, amount), null));
        return sent.size() - 2;
    }

    long deliver(int i) {
        unless(i >= 0 && i < sent.size(), new IndexOutOfBoundsException());
        Sent m = sent.get(i);
        Transfer t = m.transfer;
        Owner o = m.to < 0 ? null : owners.get(m.to);
        if (m.kind == 0) {
            o.end();
            if (o.log.size() == 5 || o.balance < t.amount) {
                return 0;
            }
            o.transfer = new Transfer(t.payer, o.serial++, t.payee, t.payeeSerial, t.amount);
            o.state = "PAYER";
            everMade.add(o.transfer);
            return 1;
        }
        if (m.kind == 1) {
            room(1);
            o.end();
            if (o.log.size() == 5) {
                return 0;
            }
            o.transfer = new Transfer(t.payer, t.payerSerial, t.payee, o.serial++, t.amount);
            o.state = "PAYEE";
            everMade.add(o.transfer);
            sent.add(new Sent(2, t.payer, -1, o.transfer, null));
            return 1;
        }
        if (m.kind <= 4) {
            return handOver(m, o);
        }
        if (m.kind == 5) {
            return archive.putIfAbsent(new Told(m.teller, t), archive.size()) == null ? 1 : 0;
        }
        if (!o.state.equals("IDLE") || o.log.isEmpty()) {
            return 0;
        }
        for (Transfer kept : o.log) {
            if (!m.archived.contains(new Told(m.to, kept))) {
                return 0;
            }
        }
        o.log.clear();
        return 1;
    }

    private long handOver(Sent m, Owner o) {
        String awaited = m.kind == 2 ? "PAYER" : m.kind == 3 ? "PAYEE" : "PAID";
        if (!o.is(awaited, m.transfer)) {
            return 0;
        }
        room(m.kind == 4 ? 0 : 1);
        if (m.kind == 2) {
            o.balance -= m.transfer.amount;
            o.state = "PAID";
            sent.add(new Sent(3, m.transfer.payee, -1, m.transfer, null));
            return 1;
        }
        o.state = "IDLE";
        o.transfer = null;
        if (m.kind == 3) {
            o.balance += m.transfer.amount;
            sent.add(new Sent(4, m.transfer.payer, -1, m.transfer, null));
        }
        return 1;
    }

    long abort(int purse) {
        int before = STATES.indexOf(owner(purse).state);
        owner(purse).end();
        return before;
    }

    long readLog(int purse) {
        Owner o = owner(purse);
        unless(o.state.equals("IDLE"), new IllegalStateException());
        room(o.log.size());
        o.log.forEach(t -> sent.add(new Sent(5, -1, purse, t, null)));
        return o.log.size();
    }

    long authorise(int purse) {
        owner(purse);
        Set<Told> known = new HashSet<>();
        archive.keySet().stream().filter(e -> e.purse == purse).forEach(known::add);
        unless(!known.isEmpty(), new IllegalStateException());
        room(1);
        sent.add(new Sent(6, purse, -1, new Transfer(-1, -1, -1, -1, -1), known));
        return sent.size() - 1;
    }

    long refund(int k) {
        Transfer t = entryAt(k).transfer;
        boolean both = archive.containsKey(new Told(t.payer, t)) && archive.containsKey(new Told(t.payee, t));
        unless(both && !refunded.contains(t), new IllegalStateException());
        refunded.add(t);
        return owners.get(t.payer).balance += t.amount;
    }

    long told(int purse, int what) {
        Owner o = owner(purse);
        what(what, 3);
        return new int[] {o.balance, o.serial, STATES.indexOf(o.state), o.log.size()}[what];
    }

    long transfer(int purse, int what) {
        Owner o = owner(purse);
        what(what, 4);
        return o.transfer == null ? -1 : o.transfer.part(what);
    }

    long log(int purse, int i, int what) {
        Owner o = owner(purse);
        unless(i >= 0 && i < o.log.size(), new IndexOutOfBoundsException());
        what(what, 4);
        return o.log.get(i).part(what);
    }

    long message(int i, int what) {
        unless(i >= 0 && i < sent.size(), new IndexOutOfBoundsException());
        what(what, 6);
        Sent m = sent.get(i);
        return what == 5 ? m.kind : what == 6 ? m.to : m.transfer.part(what);
    }

    long entry(int k, int what) {
        Told e = entryAt(k);
        what(what, 6);
        return what == 5 ? e.purse : what == 6 ? (refunded.contains(e.transfer) ? 1 : 0) : e.transfer.part(what);
    }

    long balances() {
        return owners.stream().mapToLong(o -> o.balance).sum();
    }

    long pending() {
        return everMade.stream().filter(this::isPending).mapToLong(Transfer::amount).sum();
    }

    private boolean isPending(Transfer t) {
        return sideKnows(t.payer, "PAID", t) && sideKnows(t.payee, "PAYEE", t) && !refunded.contains(t);
    }

    private boolean sideKnows(int purse, String state, Transfer t) {
        Owner o = owners.get(purse);
        return o.is(state, t) || o.log.contains(t) || archive.containsKey(new Told(purse, t));
    }
}
