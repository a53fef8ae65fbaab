/** Promises 9 to 12: what there is. */
public final class AnswersTest {
    private static final Due DUE = new Due("AnswersTest");

    public static void main(String[] args) {
        ofFrames();
        ofErrors();
        editors();
        vetoesLeft();
        editorErrors();
        chosenOnes();
        counts();
        longestRows();
        countErrors();
        DUE.end();
    }

    private static void ofFrames() {
        ProofMarks x = new ProofMarks();
        x.mark(0, 12, 1);
        x.mark(1, 12, 2);
        x.mark(2, 12, 1);
        int[] due = {0, 5, 2, 0, 0, ProofMarks.NONE};
        for (int what = 0; what <= 5; what++) {
            DUE.is("of(12, " + what + ")", x.of(12, what), due[what]);
        }
        x.round();
        Calls.tick(x, 12, 3);
        x.round();
        int[] chosen = {1, 0, 0, 0, 3, 1};
        for (int what = 0; what <= 5; what++) {
            DUE.is("chosen: of(12, " + what + ")", x.of(12, what), chosen[what]);
        }
        x.print(12, 2);
        int[] printed = {3, 0, 0, 0, 2, 1};
        for (int what = 0; what <= 5; what++) {
            DUE.is("printed: of(12, " + what + ")", x.of(12, what), printed[what]);
        }
        int[] out = {2, 0, 0, 2, 0, ProofMarks.NONE};
        for (int what = 0; what <= 5; what++) {
            DUE.is("out: of(0, " + what + ")", x.of(0, what), out[what]);
        }
    }

    private static void ofErrors() {
        ProofMarks x = new ProofMarks();
        for (int value : new int[] {-1, 30, Integer.MIN_VALUE, Integer.MAX_VALUE}) {
            DUE.is("of(" + value + ", 0)", x.of(value, 0), ProofMarks.NO_SUCH);
            DUE.is("of(" + value + ", 6)", x.of(value, 6), ProofMarks.NO_SUCH);
        }
        for (int value : new int[] {-1, 6, Integer.MIN_VALUE, Integer.MAX_VALUE}) {
            DUE.is("of(0, " + value + ")", x.of(0, value), ProofMarks.BAD_VALUE);
            DUE.is("of(29, " + value + ")", x.of(29, value), ProofMarks.BAD_VALUE);
        }
    }

    private static void editors() {
        ProofMarks x = new ProofMarks();
        x.mark(0, 0, 1);
        x.mark(0, 1, 1);
        x.mark(0, 2, 2);
        x.mark(1, 0, 1);
        int[] due = {5, 2, 1, 2, 0, 0, 0};
        for (int what = 0; what <= 6; what++) {
            DUE.is("editor(0, " + what + ")", x.editor(0, what), due[what]);
        }
        x.round();
        int[] after = {7, 0, 0, 3, 0, 0, 1};
        for (int what = 0; what <= 6; what++) {
            DUE.is("after a round: editor(0, " + what + ")", x.editor(0, what), after[what]);
        }
        DUE.is("the other one ticked it, too", x.editor(1, 6), 1);
        DUE.is("the third one did not", x.editor(2, 6), 0);
        x.reopen(0);
        DUE.is("that it was chosen stays counted", x.editor(0, 6), 1);
        x.mark(0, 0, 1);
        x.mark(2, 0, 1);
        x.round();
        DUE.is("chosen once more", x.editor(0, 6), 2);
        DUE.is("not by that one", x.editor(1, 6), 1);
        DUE.is("by the third one now", x.editor(2, 6), 1);
    }

    private static void vetoesLeft() {
        ProofMarks x = new ProofMarks();
        x.mark(2, 0, 2);
        x.mark(2, 1, 2);
        DUE.is("one cross left", x.editor(2, 3), 1);
        x.set(ProofMarks.VETOES, 1);
        DUE.is("none left, not less", x.editor(2, 3), 0);
        DUE.is("two crosses there", x.editor(2, 2), 2);
        x.set(ProofMarks.VETOES, 9);
        DUE.is("seven left", x.editor(2, 3), 7);
        DUE.is("nine left for another", x.editor(1, 3), 9);
        x.round();
        DUE.is("nine left in the next round", x.editor(2, 3), 9);
    }

    private static void editorErrors() {
        ProofMarks x = new ProofMarks();
        for (int value : new int[] {-1, 3, Integer.MIN_VALUE, Integer.MAX_VALUE}) {
            DUE.is("editor(" + value + ", 0)", x.editor(value, 0), ProofMarks.NO_SUCH);
            DUE.is("editor(" + value + ", 7)", x.editor(value, 7), ProofMarks.NO_SUCH);
        }
        for (int value : new int[] {-1, 7, Integer.MIN_VALUE, Integer.MAX_VALUE}) {
            DUE.is("editor(2, " + value + ")", x.editor(2, value), ProofMarks.BAD_VALUE);
        }
    }

    private static void chosenOnes() {
        ProofMarks x = new ProofMarks();
        Calls.tick(x, 20, 3);
        Calls.tick(x, 4, 3);
        x.round();
        Calls.tick(x, 0, 3);
        Calls.tick(x, 29, 3);
        x.round();
        ranks(x, "two rounds", 4, 20, 0, 29);
        x.print(0, 1);
        ranks(x, "a printed one stays", 4, 20, 0, 29);
        x.reopen(4);
        ranks(x, "a reopened one goes", 20, 0, 29);
        Calls.tick(x, 4, 3);
        x.round();
        ranks(x, "and comes last when it is chosen again", 20, 0, 29, 4);
        DUE.is("chosen(-1)", x.chosen(-1), ProofMarks.NO_SUCH);
        DUE.is("chosen(least)", x.chosen(Integer.MIN_VALUE), ProofMarks.NO_SUCH);
        DUE.is("chosen(most)", x.chosen(Integer.MAX_VALUE), ProofMarks.NO_SUCH);
    }

    private static void ranks(ProofMarks x, String when, int... frames) {
        for (int rank = 0; rank < frames.length; rank++) {
            DUE.is(when + ": chosen(" + rank + ")", x.chosen(rank), frames[rank]);
        }
        DUE.is(when + ": chosen(" + frames.length + ")", x.chosen(frames.length), ProofMarks.NO_SUCH);
    }

    private static void counts() {
        ProofMarks x = Calls.withChosen(0, 1, 2, 3, 9);
        x.print(0, 1);
        x.print(1, 2);
        x.print(2, 2);
        x.mark(0, 5, 1);
        x.round();
        Calls.write(x, "r;r");
        x.set(ProofMarks.NEED, 3);
        int[] due = {2, 1, 2, 24, 3, 210, 90, 1, 2, 0, 4, 3, 3, 2, 2, 3, 6};
        for (int what = 0; what < due.length; what++) {
            DUE.is("count(" + what + ")", x.count(what), due[what]);
        }
    }

    private static void longestRows() {
        DUE.is("a pair in the middle", Calls.withChosen(8, 9).count(10), 2);
        DUE.is("a whole row", Calls.withChosen(24, 25, 26, 27, 28, 29).count(10), 6);
        DUE.is("none over the edge of a row", Calls.withChosen(4, 5, 6, 7, 8).count(10), 3);
        DUE.is("none down a column", Calls.withChosen(0, 6, 12, 18, 24).count(10), 1);
        DUE.is("none over a gap", Calls.withChosen(0, 1, 3, 4).count(10), 2);
        DUE.is("the longest comes first", Calls.withChosen(0, 1, 2, 4, 5).count(10), 3);
        ProofMarks x = Calls.withChosen(12, 13, 14);
        x.print(13, 1);
        DUE.is("a printed one counts", x.count(10), 3);
        x.reopen(14);
        DUE.is("a reopened one does not", x.count(10), 2);
        x.round();
        DUE.is("nor those that are out", x.count(10), 2);
    }

    private static void countErrors() {
        ProofMarks x = new ProofMarks();
        for (int value : new int[] {-1, 17, Integer.MIN_VALUE, Integer.MAX_VALUE}) {
            DUE.is("count(" + value + ")", x.count(value), ProofMarks.BAD_VALUE);
        }
    }
}
