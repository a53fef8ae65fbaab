/** Short ways to bring a sheet where a test wants it, and to look at all of it. */
final class Calls {
    static final int OPEN = 0, CHOSEN = 1, OUT = 2, PRINTED = 3;
    static final int FRAMES = 30, EDITORS = 3;

    private Calls() {
    }

    /** Lets the first editors tick a frame. */
    static void tick(ProofMarks x, int frame, int editors) {
        for (int editor = 0; editor < editors; editor++) {
            x.mark(editor, frame, 1);
        }
    }

    /** A sheet on which the given frames are chosen with three ticks, in the round 0. */
    static ProofMarks withChosen(int... frames) {
        ProofMarks x = new ProofMarks();
        for (int frame : frames) {
            tick(x, frame, 3);
        }
        x.round();
        return x;
    }

    static void rounds(ProofMarks x, int many) {
        for (int i = 0; i < many; i++) {
            x.round();
        }
    }

    /** Puts a text of any length on the pad, and returns what the last call answered. */
    static int write(ProofMarks x, String text) {
        int answer = 0;
        for (int from = 0; from < text.length(); from += 8) {
            answer = x.put(packed(text.substring(from, Math.min(from + 8, text.length()))));
        }
        return answer;
    }

    /** Up to 8 characters as the number that put() takes. */
    static long packed(String text) {
        long number = 0;
        for (int i = 0; i < text.length(); i++) {
            number = (number << 8) | text.charAt(i);
        }
        return number;
    }

    /**
     * What undo() and restore() bring back, in 216 calls: an object is promised to answer 512 calls,
     * so that a test can look twice.
     */
    static String state(ProofMarks x) {
        StringBuilder all = new StringBuilder();
        for (int frame = 0; frame < FRAMES; frame++) {
            for (int what = 0; what <= 5; what++) {
                all.append(x.of(frame, what)).append(' ');
            }
        }
        for (int editor = 0; editor < EDITORS; editor++) {
            for (int what = 0; what <= 6; what++) {
                all.append(x.editor(editor, what)).append(' ');
            }
        }
        for (int what = 0; what <= 14; what++) {
            all.append(x.count(what)).append(' ');
        }
        return all.toString();
    }

    /** The state, the pad's length and fault, and how much can be undone. */
    static String everything(ProofMarks x) {
        return state(x) + x.count(15) + ' ' + x.fault() + ' ' + x.count(16);
    }
}
