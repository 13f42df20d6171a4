/** All that the face tells of a world, as one text. */
final class Snapshot {
    private Snapshot() {
    }

    static String of(Run w) {
        StringBuilder s = new StringBuilder();
        s.append("balances ").append(w.balances()).append(", pending ").append(w.pending()).append('\n');
        int purses = w.purses();
        for (int p = 0; p < purses; p++) {
            s.append("purse ").append(p).append(": ").append(Steps.toldOf(w, p));
            s.append(", transfer ").append(Steps.transferOf(w, p));
            int kept = w.told(p, 3);
            for (int i = 0; i < kept; i++) {
                s.append(", log ").append(Steps.logOf(w, p, i));
            }
            s.append('\n');
        }
        int messages = w.messages();
        for (int i = 0; i < messages; i++) {
            s.append("message ").append(i).append(": ").append(Steps.messageOf(w, i)).append('\n');
        }
        int entries = w.entries();
        for (int k = 0; k < entries; k++) {
            s.append("entry ").append(k).append(": ").append(Steps.entryOf(w, k)).append('\n');
        }
        return s.toString();
    }
}
