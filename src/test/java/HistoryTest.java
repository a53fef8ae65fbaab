/** Promises 22 to 24: undo, and saved states. */
public final class HistoryTest {
    private static final Due DUE = new Due("HistoryTest");

    public static void main(String[] args) {
        undoing();
        undoingEachChange();
        undoingALiftedCross();
        sixAtMost();
        errorsInAFullHistory();
        whatIsNoChange();
        slotsAndPadStay();
        saving();
        restoring();
        slotErrors();
        DUE.end();
    }

    private static void undoing() {
        ProofMarks x = new ProofMarks();
        DUE.is("nothing to undo", x.undo(), ProofMarks.NOT_POSSIBLE);
        x.buy(1);
        x.buy(2);
        x.buy(3);
        DUE.is("two left", x.undo(), 2);
        DUE.is("303", x.count(5), 303);
        DUE.is("one left", x.undo(), 1);
        x.buy(10);
        DUE.is("311", x.count(5), 311);
        DUE.is("one left again", x.undo(), 1);
        DUE.is("301", x.count(5), 301);
        DUE.is("none left", x.undo(), 0);
        DUE.is("300", x.count(5), 300);
        DUE.is("nothing more to undo", x.undo(), ProofMarks.NOT_POSSIBLE);
    }

    private static void undoingEachChange() {
        for (int change = 0; change <= 8; change++) {
            ProofMarks x = Calls.withChosen(0, 1);
            x.mark(0, 2, 2);
            x.save(0);
            x.buy(3);
            Calls.tick(x, 3, 2);
            if (change == 8) {
                Calls.write(x, "r;r;t0.9;p1*3");
            }
            String before = Calls.state(x);
            int kept = x.count(16);
            makeChange(x, change);
            DUE.is("change " + change + " is recorded", x.count(16), Math.min(kept + 1, 6));
            x.undo();
            DUE.isTrue("change " + change + " is undone", before.equals(Calls.state(x)));
        }
    }

    private static void makeChange(ProofMarks x, int change) {
        switch (change) {
            case 0 -> x.set(ProofMarks.VETOES, 7);
            case 1 -> x.mark(2, 4, 1);
            case 2 -> x.argue(1, 0, 2);
            case 3 -> x.round();
            case 4 -> x.print(0, 2);
            case 5 -> x.buy(99);
            case 6 -> x.reopen(1);
            case 7 -> x.restore(0);
            default -> x.carryOut();
        }
    }

    private static void undoingALiftedCross() {
        ProofMarks x = new ProofMarks();
        x.set(ProofMarks.ARGUE, 3);
        x.mark(0, 2, 2);
        x.argue(1, 0, 2);
        x.save(0);
        String before = Calls.state(x);
        DUE.is("the cross is lifted", x.argue(2, 0, 2), 1);
        DUE.is("and counted", x.editor(0, 5), 1);
        x.undo();
        DUE.isTrue("a lifted cross is undone", before.equals(Calls.state(x)));
        x.argue(2, 0, 2);
        x.restore(0);
        DUE.is("restored without it", x.editor(0, 5), 0);
        DUE.is("with the cross", x.of(2, 2), 1);
    }

    private static void errorsInAFullHistory() {
        ProofMarks x = new ProofMarks();
        for (int i = 1; i <= 9; i++) {
            x.buy(1);
            x.buy(0);
        }
        DUE.is("six", x.count(16), 6);
        for (int left = 5; left >= 0; left--) {
            DUE.is("undo() behind errors with " + left + " left", x.undo(), left);
            DUE.is("paper behind errors with " + left + " left", x.count(5), 303 + left);
        }
    }

    private static void sixAtMost() {
        ProofMarks x = new ProofMarks();
        for (int i = 1; i <= 20; i++) {
            x.buy(1);
            DUE.is("changes after " + i, x.count(16), Math.min(i, 6));
        }
        for (int left = 5; left >= 0; left--) {
            DUE.is("undo() with " + left + " left", x.undo(), left);
            DUE.is("paper with " + left + " left", x.count(5), 314 + left);
        }
        DUE.is("the older ones were dropped", x.undo(), ProofMarks.NOT_POSSIBLE);
        DUE.is("314", x.count(5), 314);
    }

    private static void whatIsNoChange() {
        ProofMarks x = new ProofMarks();
        x.buy(1);
        x.put('q');
        x.fault();
        x.carryOut();
        x.wipe();
        x.save(0);
        x.save(1);
        x.mark(0, 0, 3);
        x.mark(3, 0, 1);
        x.argue(0, 1, 0);
        x.reopen(30);
        x.restore(2);
        x.buy(0);
        DUE.is("one change only", x.count(16), 1);
        x.set(ProofMarks.NEED, 2);
        x.mark(0, 0, 0);
        DUE.is("also if nothing is different then", x.count(16), 3);
        for (int i = 0; i < 8; i++) {
            x.buy(99);
        }
        DUE.is("six", x.count(16), 6);
        x.buy(0);
        x.undo();
        DUE.is("an error in between drops nothing", x.count(5), 994);
        DUE.is("five left", x.count(16), 5);
    }

    private static void slotsAndPadStay() {
        ProofMarks x = new ProofMarks();
        x.buy(1);
        x.buy(2);
        x.save(0);
        Calls.write(x, "r;r");
        x.undo();
        DUE.is("the pad stays", x.count(15), 3);
        x.undo();
        DUE.is("the slot stays", x.restore(0), 0);
        DUE.is("303", x.count(5), 303);
        DUE.is("the pad stays still", x.count(15), 3);
    }

    private static void saving() {
        ProofMarks x = new ProofMarks();
        DUE.is("save(0)", x.save(0), 0);
        x.round();
        x.round();
        DUE.is("save(1)", x.save(1), 2);
        x.round();
        DUE.is("restore(0)", x.restore(0), 0);
        DUE.is("no rounds", x.count(0), 0);
        DUE.is("restore(1)", x.restore(1), 2);
        DUE.is("two rounds", x.count(0), 2);
        DUE.is("save(0) overwrites", x.save(0), 2);
        x.undo();
        x.undo();
        DUE.is("restore(0) brings the new one", x.restore(0), 2);
        x.buy(5);
        DUE.is("the slot keeps it", x.restore(0), 2);
        DUE.is("300", x.count(5), 300);
    }

    private static void restoring() {
        ProofMarks x = Calls.withChosen(0, 7);
        x.set(ProofMarks.ARGUE, 1);
        x.mark(0, 2, 2);
        x.argue(1, 0, 2);
        x.print(7, 2);
        x.save(1);
        String saved = Calls.state(x);
        x.reopen(0);
        Calls.tick(x, 3, 3);
        x.round();
        x.set(ProofMarks.DULL, 5);
        x.buy(50);
        Calls.write(x, "r;");
        DUE.is("restore(1)", x.restore(1), 1);
        DUE.isTrue("all of it comes back", saved.equals(Calls.state(x)));
        DUE.is("the pad stays", x.count(15), 2);
        DUE.is("it is a change", x.count(16), 6);
        DUE.is("it can be undone", x.undo(), 5);
        DUE.is("two rounds again", x.count(0), 2);
        DUE.is("the paper again", x.count(5), 310);
    }

    private static void slotErrors() {
        ProofMarks x = new ProofMarks();
        for (int value : new int[] {-1, 2, Integer.MIN_VALUE, Integer.MAX_VALUE}) {
            DUE.is("save(" + value + ")", x.save(value), ProofMarks.BAD_VALUE);
            DUE.is("restore(" + value + ")", x.restore(value), ProofMarks.BAD_VALUE);
        }
        x.save(1);
        DUE.is("the other slot is empty", x.restore(0), ProofMarks.NOT_POSSIBLE);
        DUE.is("this one is not", x.restore(1), 0);
        DUE.is("one change", x.count(16), 1);
    }
}
