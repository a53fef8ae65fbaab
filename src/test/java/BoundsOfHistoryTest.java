import java.util.function.Consumer;

/** The boundary cases that the promises 22 to 24 name. */
public final class BoundsOfHistoryTest {
    private static final Bounds B = new Bounds("BoundsOfHistoryTest");

    public static void main(String[] args) {
        undoLeavesPadAndSlots();
        sixStates();
        eachMethodRecords();
        nothingDifferent();
        errorsRecordNothing();
        otherMethodsRecordNothing();
        ordersRecordNothing();
        oldestIsDropped();
        undoAnswers();
        undoNotPossible();
        saveLeavesTheRest();
        saveAnswers();
        saveBadValue();
        restoreBringsAll();
        restoreKeepsTheSlot();
        restoreIsAChange();
        restoreAnswers();
        restoreBadValue();
        restoreNotPossible();
        B.end();
    }

    /** Buys one paper at a time, so that the paper tells the states apart. */
    private static Consumer<ProofMarks> purchases(int many) {
        return x -> {
            for (int i = 0; i < many; i++) {
                x.buy(1);
            }
        };
    }

    private static Consumer<ProofMarks> undone(int many) {
        return x -> {
            for (int i = 0; i < many; i++) {
                x.undo();
            }
        };
    }

    private static void undoLeavesPadAndSlots() {
        B.sentence(22, "everything except the pad, the slots and the history is as it was before it.");
        Consumer<ProofMarks> scene = x -> {
            x.buy(1);
            x.save(0);
            x.buy(2);
            x.save(0);
            x.save(1);
            Calls.write(x, "r;r");
            x.undo();
        };
        B.allowed(scene, "the paper", x -> x.count(5), 301);
        B.allowed(scene, "the pad", x -> x.count(15), 3);
        B.allowed(scene.andThen(x -> x.restore(0)), "the slot 0", x -> x.count(5), 303);
        B.allowed(scene.andThen(x -> x.restore(1)), "the slot 1, saved in between", x -> x.count(5), 303);
        Consumer<ProofMarks> carried = Scenes.text("b1;b2").andThen(ProofMarks::carryOut).andThen(ProofMarks::undo);
        B.allowed(carried, "a pad that was carried out", x -> x.count(15), 0);
        B.allowed(carried, "its orders", x -> x.count(5), 300);
    }

    private static void sixStates() {
        B.sentence(22, "A history of at most 6 states is kept");
        for (int many = 0; many <= 8; many++) {
            B.allowed(purchases(many), "changes behind " + many, x -> x.count(16), Math.min(many, 6));
            B.allowed(purchases(many).andThen(undone(6)), "paper, all of " + many + " undone", x -> x.count(5), 300 + Math.max(many - 6, 0));
            if (many > 0) {
                B.allowed(purchases(many).andThen(undone(Math.min(many, 6) - 1)), "the last undo() behind " + many, ProofMarks::undo, 0);
            }
            B.refused(purchases(many).andThen(undone(Math.min(many, 6))), "one undo() more behind " + many,
                ProofMarks::undo, ProofMarks.NOT_POSSIBLE);
        }
        ProofMarks x = new ProofMarks();
        purchases(40).accept(x);
        for (int left = 5; left >= 0; left--) {
            B.is("undo() behind 40", x.undo(), left);
            B.is("paper with " + left + " left", x.count(5), 334 + left);
        }
        B.is("undo() behind these", x.undo(), ProofMarks.NOT_POSSIBLE);
    }

    private static void eachMethodRecords() {
        B.sentence(22, "each method that is a change, and returns no error, records the state before it");
        B.isChange(Scenes::busy, "set()", x -> x.set(ProofMarks.NEED, 3));
        B.isChange(Scenes::busy, "mark()", x -> x.mark(2, Scenes.BARE, 2));
        B.isChange(Scenes::busy, "argue()", x -> x.argue(0, 1, Scenes.CROSSED));
        B.isChange(Scenes::busy, "round()", ProofMarks::round);
        B.isChange(Scenes::busy, "print()", x -> x.print(Scenes.CHOSEN_IN_2, 2));
        B.isChange(Scenes::busy, "buy()", x -> x.buy(1));
        B.isChange(Scenes::busy, "reopen()", x -> x.reopen(Scenes.OUT));
        B.isChange(Scenes::busy, "carryOut()", ProofMarks::carryOut);
        B.isChange(Scenes::busy, "restore()", x -> x.restore(0));
    }

    private static void nothingDifferent() {
        B.sentence(22, "(also if nothing is different then)");
        B.isChange(Bounds.NEW, "set() to what it was", x -> x.set(ProofMarks.NEED, 2));
        B.isChange(Bounds.NEW, "mark() with none on none", x -> x.mark(0, 0, 0));
        B.isChange(x -> x.mark(0, 0, 2), "mark() with a cross on a cross", x -> x.mark(0, 0, 2));
        B.isChange(Scenes.muchPaper(999), "buy() with 999", x -> x.buy(1));
        B.isChange(Scenes.text("b0"), "carryOut() of none", ProofMarks::carryOut);
        B.isChange(x -> x.save(0), "restore() of what there is", x -> x.restore(0));
        ProofMarks x = new ProofMarks();
        x.buy(1);
        for (int i = 0; i < 6; i++) {
            x.mark(0, 0, 0);
        }
        undone(6).accept(x);
        B.is("it drops the oldest one, too", x.count(5), 301);
        B.is("and nothing is left", x.undo(), ProofMarks.NOT_POSSIBLE);
    }

    private static void errorsRecordNothing() {
        B.sentence(22, "each method that is a change, and returns no error, records the state before it");
        for (int many = 0; many <= 7; many++) {
            Consumer<ProofMarks> scene = purchases(many).andThen(Scenes.text("b"));
            B.unchanged(scene, "errors behind " + many + " changes", x -> {
                x.set(0, 0);
                x.mark(3, 0, 0);
                x.mark(0, 0, 3);
                x.argue(0, 1, 0);
                x.print(0, 1);
                x.buy(0);
                x.reopen(0);
                x.carryOut();
                x.restore(0);
                x.restore(2);
            });
        }
        B.unchanged(Scenes.rounds(99), "the round 100", ProofMarks::round);
    }

    private static void otherMethodsRecordNothing() {
        B.sentence(22, "records the state before it");
        Consumer<ProofMarks> others = x -> {
            x.put('r');
            x.fault();
            x.wipe();
            x.save(0);
            x.save(1);
            x.of(0, 0);
            x.editor(0, 0);
            x.chosen(0);
            x.count(0);
            x.why(0);
            x.ifRound(0);
            x.decides(0);
            x.agree(0, 1);
            x.paperFor();
        };
        for (int many : new int[] {0, 1, 5, 6}) {
            B.allowed(purchases(many).andThen(others), "behind " + many, x -> x.count(16), many);
            B.allowed(purchases(many).andThen(others).andThen(undone(6)), "all undone", x -> x.count(5), 300);
        }
        B.allowed(purchases(2).andThen(ProofMarks::undo).andThen(ProofMarks::undo), "an undo() is none", x -> x.count(5), 300);
    }

    private static void ordersRecordNothing() {
        B.sentence(22, "An order of a text records nothing by itself.");
        for (int many : new int[] {0, 1, 5, 6, 7}) {
            Consumer<ProofMarks> scene = purchases(many).andThen(Scenes.text("b2;b2;b2;b2;b2;b2;b2")).andThen(ProofMarks::carryOut);
            B.allowed(scene, "seven orders behind " + many, x -> x.count(16), Math.min(many + 1, 6));
            B.allowed(scene, "their paper", x -> x.count(5), 314 + many);
            B.allowed(scene.andThen(ProofMarks::undo), "undo() of all of them", x -> x.count(5), 300 + many);
            B.allowed(scene.andThen(undone(6)), "undo() of all", x -> x.count(5), 300 + Math.max(many - 5, 0));
        }
    }

    private static void oldestIsDropped() {
        B.sentence(22, "when one more is recorded, the oldest one is dropped.");
        for (int left = 0; left <= 6; left++) {
            int undone = 6 - left;
            Consumer<ProofMarks> seven = purchases(7).andThen(undone(undone));
            B.allowed(seven, "behind seven, " + left + " left", x -> x.count(5), 301 + left);
            B.allowed(purchases(6).andThen(undone(undone)), "behind six, " + left + " left", x -> x.count(5), 300 + left);
        }
        ProofMarks x = new ProofMarks();
        purchases(6).andThen(undone(2)).andThen(purchases(3)).accept(x);
        B.is("six undone by two, and three more", x.count(16), 6);
        undone(6).accept(x);
        B.is("the oldest one of seven was dropped", x.count(5), 301);
    }

    private static void undoAnswers() {
        B.sentence(22, "Returns how many changes can be undone then");
        for (int many = 1; many <= 7; many++) {
            B.allowed(purchases(many), "behind " + many, ProofMarks::undo, Math.min(many, 6) - 1);
        }
        B.allowed(purchases(7).andThen(ProofMarks::undo), "twice behind seven", ProofMarks::undo, 4);
        B.allowed(purchases(7).andThen(ProofMarks::undo).andThen(purchases(1)), "with one in between", ProofMarks::undo, 5);
    }

    private static void undoNotPossible() {
        B.sentence(22, "NOT_POSSIBLE if there is none");
        B.refused(Bounds.NEW, "of a new object", ProofMarks::undo, ProofMarks.NOT_POSSIBLE);
        B.allowed(purchases(1), "of one change", ProofMarks::undo, 0);
        B.refused(purchases(1).andThen(ProofMarks::undo), "behind the only one", ProofMarks::undo, ProofMarks.NOT_POSSIBLE);
        B.refused(x -> x.buy(0), "behind an error", ProofMarks::undo, ProofMarks.NOT_POSSIBLE);
        Consumer<ProofMarks> noChanges = x -> {
            x.save(0);
            x.save(1);
            x.put('r');
        };
        B.refused(noChanges, "behind what is no change", ProofMarks::undo, ProofMarks.NOT_POSSIBLE);
        Consumer<ProofMarks> emptied = x -> {
            Scenes.busy(x);
            undone(6).accept(x);
        };
        B.refused(emptied, "behind six of many", ProofMarks::undo, ProofMarks.NOT_POSSIBLE);
        B.allowed(emptied.andThen(ProofMarks::undo).andThen(x -> x.buy(1)), "a change behind that", ProofMarks::undo, 0);
    }

    private static void saveLeavesTheRest() {
        B.sentence(23, "Saves everything except the pad, the history and the slots in a slot, and overwrites what was saved there.");
        Consumer<ProofMarks> scene = x -> {
            x.save(0);
            x.save(1);
            purchases(3).accept(x);
            Calls.write(x, "r");
            x.save(0);
            Calls.write(x, ";r");
            purchases(2).accept(x);
        };
        B.allowed(scene, "save() is no change", x -> x.count(16), 5);
        B.allowed(scene.andThen(x -> x.restore(0)), "it was overwritten", x -> x.count(5), 303);
        B.allowed(scene.andThen(x -> x.restore(1)), "the other slot was not", x -> x.count(5), 300);
        B.allowed(scene.andThen(x -> x.restore(0)), "the pad was not saved", x -> x.count(15), 3);
        B.allowed(scene.andThen(x -> x.restore(0)), "nor the history", x -> x.count(16), 6);
        B.allowed(scene.andThen(x -> x.restore(0)).andThen(undone(6)), "it goes back to the start", x -> x.count(5), 300);
        for (int slot = 0; slot <= 1; slot++) {
            ProofMarks x = new ProofMarks();
            Scenes.busy(x);
            x.save(slot);
            x.round();
            x.restore(slot);
            ProofMarks due = new ProofMarks();
            Scenes.busy(due);
            B.same("all of a busy sheet, slot " + slot, Calls.state(x), Calls.state(due));
        }
    }

    private static void saveAnswers() {
        B.sentence(23, "Returns how many rounds there have been");
        for (int slot = 0; slot <= 1; slot++) {
            int it = slot;
            B.allowed(Bounds.NEW, "none", x -> x.save(it), 0);
            B.allowed(Scenes.rounds(1), "one", x -> x.save(it), 1);
            B.allowed(Scenes.rounds(99), "all", x -> x.save(it), 99);
            B.allowed(Scenes.rounds(3).andThen(ProofMarks::undo), "one undone", x -> x.save(it), 2);
        }
    }

    private static void saveBadValue() {
        B.sentence(23, "BAD_VALUE if there is no such slot");
        B.allowed(Scenes::busy, "the slot 0", x -> x.save(0), 2);
        B.allowed(Scenes::busy, "the slot 1", x -> x.save(1), 2);
        B.refused(Scenes::busy, "the slot -1", x -> x.save(-1), ProofMarks.BAD_VALUE);
        B.refused(Scenes::busy, "the slot 2", x -> x.save(2), ProofMarks.BAD_VALUE);
        B.refused(Bounds.NEW, "the slot 2 of a new object", x -> x.save(2), ProofMarks.BAD_VALUE);
        for (int far : Bounds.FAR) {
            B.refused(Scenes::busy, "save(" + far + ")", x -> x.save(far), ProofMarks.BAD_VALUE);
        }
    }

    private static void restoreBringsAll() {
        B.sentence(24, "Restores what was saved last in a slot, which keeps it.");
        Consumer<ProofMarks> both = x -> {
            x.save(0);
            x.buy(1);
            x.save(1);
            x.buy(2);
            x.save(0);
            x.buy(4);
        };
        B.allowed(both.andThen(x -> x.restore(0)), "the slot 0", x -> x.count(5), 303);
        B.allowed(both.andThen(x -> x.restore(1)), "the slot 1", x -> x.count(5), 301);
        B.allowed(both.andThen(x -> x.restore(2)), "no slot", x -> x.count(5), 307);
    }

    private static void restoreKeepsTheSlot() {
        B.sentence(24, "which keeps it.");
        ProofMarks x = new ProofMarks();
        x.buy(1);
        x.save(1);
        for (int i = 0; i < 8; i++) {
            x.buy(50);
            Calls.tick(x, i, 3);
            x.round();
            B.is("restore(1) once more", x.restore(1), 0);
            B.is("the paper", x.count(5), 301);
            B.is("no chosen ones", x.count(2), 0);
        }
        x.undo();
        B.is("behind an undo()", x.restore(1), 0);
        B.is("the paper behind it", x.count(5), 301);
    }

    private static void restoreIsAChange() {
        B.sentence(24, "This is a change.");
        B.isChange(Scenes::busy, "restore(0)", x -> x.restore(0));
        B.isChange(Scenes::busy, "restore(1)", x -> x.restore(1));
        B.isChange(x -> x.save(0), "restore(0) as the first change", x -> x.restore(0));
    }

    private static void restoreAnswers() {
        B.sentence(24, "Returns how many rounds there have been then");
        for (int slot = 0; slot <= 1; slot++) {
            int it = slot;
            B.allowed(x -> x.save(it), "none", x -> x.restore(it), 0);
            Consumer<ProofMarks> fewer = x -> {
                Calls.rounds(x, 2);
                x.save(it);
                Calls.rounds(x, 3);
            };
            B.allowed(fewer, "fewer than before", x -> x.restore(it), 2);
            Consumer<ProofMarks> more = x -> {
                Calls.rounds(x, 99);
                x.save(it);
                x.undo();
            };
            B.allowed(more, "all of the 99 again", x -> x.restore(it), 99);
        }
    }

    private static void restoreBadValue() {
        B.sentence(24, "BAD_VALUE if there is no such slot");
        B.allowed(Scenes::busy, "the slot 0", x -> x.restore(0), 1);
        B.allowed(Scenes::busy, "the slot 1", x -> x.restore(1), 2);
        B.refused(Scenes::busy, "the slot -1", x -> x.restore(-1), ProofMarks.BAD_VALUE);
        B.refused(Scenes::busy, "the slot 2", x -> x.restore(2), ProofMarks.BAD_VALUE);
        B.refused(Bounds.NEW, "the slot 2 of a new object", x -> x.restore(2), ProofMarks.BAD_VALUE);
        for (int far : Bounds.FAR) {
            B.refused(Scenes::busy, "restore(" + far + ")", x -> x.restore(far), ProofMarks.BAD_VALUE);
        }
    }

    private static void restoreNotPossible() {
        B.sentence(24, "NOT_POSSIBLE if nothing was saved in it");
        for (int slot = 0; slot <= 1; slot++) {
            int it = slot;
            int other = 1 - slot;
            B.refused(Bounds.NEW, "restore(" + it + ") of a new object", x -> x.restore(it), ProofMarks.NOT_POSSIBLE);
            B.refused(purchases(7), "restore(" + it + ") behind changes", x -> x.restore(it), ProofMarks.NOT_POSSIBLE);
            B.refused(x -> x.save(other), "restore(" + it + ") with the other slot saved", x -> x.restore(it), ProofMarks.NOT_POSSIBLE);
            B.allowed(x -> x.save(it), "restore(" + it + ") with this one saved", x -> x.restore(it), 0);
            Consumer<ProofMarks> undone = x -> {
                x.buy(1);
                x.save(it);
                x.undo();
            };
            B.allowed(undone, "restore(" + it + ") of what was saved before an undo()", x -> x.restore(it), 0);
        }
    }
}
