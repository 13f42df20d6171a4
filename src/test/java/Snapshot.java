/** All that the face tells of a world, as one text. */
final class Snapshot {
    private Snapshot() {
    }

    static String of(PurseWorld w) {
        StringBuilder s = new StringBuilder();
        s.append("balances ").append(w.balances()).append(" pending ").append(w.pending()).append('\n');
        for (int p = 0; p < w.purses(); p++) {
            addPurse(s, w, p);
        }
        for (int i = 0; i < w.messages(); i++) {
            s.append("message ").append(i).append(':');
            for (int what = 0; what <= 6; what++) {
                s.append(' ').append(w.message(i, what));
            }
            s.append('\n');
        }
        for (int k = 0; k < w.entries(); k++) {
            s.append("entry ").append(k).append(':');
            for (int what = 0; what <= 6; what++) {
                s.append(' ').append(w.entry(k, what));
            }
            s.append('\n');
        }
        return s.toString();
    }

    private static void addPurse(StringBuilder s, PurseWorld w, int p) {
        s.append("purse ").append(p).append(':');
        for (int what = 0; what <= 3; what++) {
            s.append(' ').append(w.told(p, what));
        }
        s.append(" transfer");
        for (int what = 0; what <= 4; what++) {
            s.append(' ').append(w.transfer(p, what));
        }
        for (int i = 0; i < w.told(p, 3); i++) {
            s.append(" log");
            for (int what = 0; what <= 4; what++) {
                s.append(' ').append(w.log(p, i, what));
            }
        }
        s.append('\n');
    }
}
