/** Ways to look at an object so that no part of it stays hidden: each one may spoil it for the next. */
final class Views {
    static final int MANY = 11;

    private Views() {
    }

    static String of(ProofMarks x, int view) {
        if (view == 0) {
            return Calls.everything(x) + order(x);
        }
        if (view <= 6) {
            return undone(x, view);
        }
        if (view <= 8) {
            return x.restore(view - 7) + " " + Calls.state(x);
        }
        return view == 9 ? x.carryOut() + " " + Calls.everything(x) : lengthened(x);
    }

    private static String order(ProofMarks x) {
        StringBuilder all = new StringBuilder();
        for (int rank = 0; rank <= Calls.FRAMES; rank++) {
            all.append(x.chosen(rank)).append(' ');
        }
        return all.toString();
    }

    private static String undone(ProofMarks x, int times) {
        int left = 0;
        for (int i = 0; i < times; i++) {
            left = x.undo();
        }
        return left + " " + Calls.state(x);
    }

    /** The pad with more behind it, which tells whether it ends as it did. */
    private static String lengthened(ProofMarks x) {
        return x.put(';') + " " + x.put(Calls.packed("r;b9")) + " " + x.fault() + " " + x.wipe() + " " + x.fault();
    }
}
