import java.util.function.Consumer;
import java.util.stream.IntStream;

/** The boundary cases that the promises 9 to 12 name. */
public final class BoundsOfAnswersTest {
    private static final Bounds B = new Bounds("BoundsOfAnswersTest");

    public static void main(String[] args) {
        ofAnswers();
        ofSizes();
        ofRounds();
        ofNoSuch();
        ofBadValue();
        editorCrosses();
        editorSoFar();
        editorChosenFrames();
        editorNoSuch();
        editorBadValue();
        chosenInOrder();
        chosenNoSuch();
        countLeast();
        countMost();
        countPrints();
        countRows();
        countPad();
        countChanges();
        countBadValue();
        answersChangeNothing();
        B.end();
    }

    private static void ofAnswers() {
        B.sentence(9, "0 how it is, 0 to 3, 1 editors with a tick on it, 2 those with a cross, as sets, 3 rounds without a tick");
        int[] how = {1, 1, 3, 0, 0, 0, 2};
        for (int frame = 0; frame < how.length; frame++) {
            int it = frame;
            B.allowed(Scenes::busy, "of(" + it + ", 0)", x -> x.of(it, 0), how[it]);
        }
        B.allowed(Scenes::busy, "of(CROSSED, 1)", x -> x.of(Scenes.CROSSED, 1), 1);
        B.allowed(Scenes::busy, "of(CROSSED, 2)", x -> x.of(Scenes.CROSSED, 2), 2);
        B.allowed(x -> Calls.tick(x, 0, 3), "all ticks", x -> x.of(0, 1), 7);
        B.allowed(Bounds.NEW, "no ticks", x -> x.of(0, 1), 0);
        B.allowed(Scenes.allChosen(3), "ticks of a chosen one", x -> x.of(0, 1), 0);
        B.allowed(Scenes.setting(ProofMarks.DULL, 5).andThen(Scenes.rounds(99)), "the most rounds", x -> x.of(0, 3), 5);
        B.allowed(Scenes.setting(ProofMarks.DULL, 5).andThen(Scenes.rounds(4)), "the most while open", x -> x.of(0, 3), 4);
    }

    private static void ofSizes() {
        B.sentence(9, "4 the size with which it was chosen, or printed (0 if neither)");
        for (int own = 1; own <= 3; own++) {
            B.allowed(Scenes.allChosen(own), "chosen", x -> x.of(29, 4), own);
            for (int size = 1; size <= own; size++) {
                int it = size;
                B.allowed(Scenes.allChosen(own).andThen(x -> x.print(29, it)), "printed", x -> x.of(29, 4), it);
            }
            B.allowed(Scenes.allChosen(own).andThen(x -> x.reopen(29)), "reopened", x -> x.of(29, 4), 0);
        }
        B.allowed(Bounds.NEW, "open", x -> x.of(29, 4), 0);
        B.allowed(x -> Calls.tick(x, 29, 3), "open with ticks", x -> x.of(29, 4), 0);
        B.allowed(Scenes::busy, "out", x -> x.of(Scenes.OUT, 4), 0);
        Consumer<ProofMarks> reopened = Scenes.allChosen(3).andThen(x -> x.reopen(29)).andThen(Scenes.rounds(2));
        B.allowed(reopened, "out behind that", x -> x.of(29, 4), 0);
    }

    private static void ofRounds() {
        B.sentence(9, "5 the round in which it was chosen last, 0 for the first one (NONE if it never was)");
        B.allowed(Bounds.NEW, "open", x -> x.of(0, 5), ProofMarks.NONE);
        B.allowed(Scenes.rounds(2), "out", x -> x.of(0, 5), ProofMarks.NONE);
        Consumer<ProofMarks> first = x -> {
            Calls.tick(x, 0, 2);
            x.round();
        };
        B.allowed(first, "the first one", x -> x.of(0, 5), 0);
        B.allowed(first.andThen(x -> x.print(0, 1)), "printed", x -> x.of(0, 5), 0);
        B.allowed(first.andThen(x -> x.reopen(0)), "reopened", x -> x.of(0, 5), 0);
        B.allowed(first.andThen(x -> x.reopen(0)).andThen(Scenes.rounds(2)), "out behind that", x -> x.of(0, 5), 0);
        B.allowed(first.andThen(ProofMarks::undo), "undone", x -> x.of(0, 5), ProofMarks.NONE);
        Consumer<ProofMarks> again = x -> {
            first.accept(x);
            x.reopen(0);
            Calls.tick(x, 0, 3);
            x.round();
        };
        B.allowed(again, "chosen last in the second one", x -> x.of(0, 5), 1);
        Consumer<ProofMarks> last = x -> {
            Calls.rounds(x, 98);
            x.reopen(0);
            Calls.tick(x, 0, 2);
            x.round();
        };
        B.allowed(last, "the last one", x -> x.of(0, 5), 98);
    }

    private static void ofNoSuch() {
        B.sentence(9, "NO_SUCH if there is no such frame");
        for (int i = 0; i <= 5; i++) {
            int what = i;
            int due = what == 5 ? ProofMarks.NONE : 0;
            B.allowed(Bounds.NEW, "of(0, " + what + ")", x -> x.of(0, what), due);
            B.allowed(Bounds.NEW, "of(29, " + what + ")", x -> x.of(29, what), due);
            B.refused(Scenes::busy, "of(-1, " + what + ")", x -> x.of(-1, what), ProofMarks.NO_SUCH);
            B.refused(Scenes::busy, "of(30, " + what + ")", x -> x.of(30, what), ProofMarks.NO_SUCH);
        }
        for (int far : Bounds.FAR) {
            B.refused(Scenes::busy, "of(" + far + ", 0)", x -> x.of(far, 0), ProofMarks.NO_SUCH);
        }
    }

    private static void ofBadValue() {
        B.sentence(9, "BAD_VALUE if what is out of range");
        for (int i = 0; i < 2; i++) {
            int frame = 29 * i;
            B.allowed(Bounds.NEW, "of(" + frame + ", 0)", x -> x.of(frame, 0), 0);
            B.allowed(Bounds.NEW, "of(" + frame + ", 5)", x -> x.of(frame, 5), ProofMarks.NONE);
            B.refused(Scenes::busy, "of(" + frame + ", -1)", x -> x.of(frame, -1), ProofMarks.BAD_VALUE);
            B.refused(Scenes::busy, "of(" + frame + ", 6)", x -> x.of(frame, 6), ProofMarks.BAD_VALUE);
        }
        for (int far : Bounds.FAR) {
            B.refused(Scenes::busy, "of(0, " + far + ")", x -> x.of(0, far), ProofMarks.BAD_VALUE);
        }
    }

    private static void editorCrosses() {
        B.sentence(10, "1 ticks on open frames now, 2 crosses now, 3 crosses that can be made yet");
        for (int vetoes = 0; vetoes <= 9; vetoes++) {
            ProofMarks x = new ProofMarks();
            x.set(ProofMarks.VETOES, vetoes);
            for (int made = 0; made <= vetoes; made++) {
                B.is("crosses", x.editor(0, 2), made);
                B.is("crosses yet", x.editor(0, 3), vetoes - made);
                B.is("crosses yet of another one", x.editor(1, 3), vetoes);
                x.mark(0, made, 2);
            }
            x.set(ProofMarks.VETOES, 0);
            B.is("none yet, also above VETOES", x.editor(0, 3), 0);
        }
        ProofMarks x = new ProofMarks();
        for (int frame = 0; frame < Calls.FRAMES; frame++) {
            B.is("ticks", x.editor(2, 1), frame);
            x.mark(2, frame, 1);
        }
        B.is("all ticks", x.editor(2, 1), 30);
        x.round();
        B.is("no ticks behind a round", x.editor(2, 1), 0);
    }

    private static void editorSoFar() {
        B.sentence(10, "4 arguments so far, 5 crosses of this editor that were lifted so far");
        ProofMarks x = new ProofMarks();
        Scenes.points(5, 2, 1).andThen(y -> y.mark(1, 0, 2)).accept(x);
        int[] arguments = {x.editor(0, 4), x.editor(1, 4), x.editor(2, 4)};
        int[] lifted = {x.editor(0, 5), x.editor(1, 5), x.editor(2, 5)};
        for (int i = 1; i <= 3; i++) {
            B.is("argument " + i, x.argue(0, 1, 0), i == 3 ? 1 : 0);
            B.is("arguments", x.editor(0, 4), arguments[0] + i);
            B.is("crosses lifted", x.editor(1, 5), lifted[1] + (i == 3 ? 1 : 0));
        }
        x.argue(0, 1, 0);
        B.is("one that is refused does not count", x.editor(0, 4), arguments[0] + 3);
        B.is("nor for the crosses", x.editor(1, 5), lifted[1] + 1);
        B.is("the other one made none", x.editor(1, 4), arguments[1]);
        B.is("nor lost the editor one", x.editor(0, 5), lifted[0]);
        B.is("the third one made none", x.editor(2, 4), arguments[2]);
        B.is("nor lost one", x.editor(2, 5), lifted[2]);
        x.round();
        B.is("arguments behind a round", x.editor(0, 4), arguments[0] + 3);
        B.is("crosses behind a round", x.editor(1, 5), lifted[1] + 1);
    }

    private static void editorChosenFrames() {
        B.sentence(10, "6 frames that were chosen with a tick of this editor so far");
        Consumer<ProofMarks> all = Scenes.allChosen(2);
        B.allowed(all, "all frames", x -> x.editor(0, 6), 30);
        B.allowed(all, "no frames", x -> x.editor(2, 6), 0);
        B.allowed(all.andThen(x -> x.print(0, 1)), "a printed one counts", x -> x.editor(0, 6), 30);
        B.allowed(all.andThen(x -> x.reopen(0)), "it was chosen, also if it is reopened", x -> x.editor(0, 6), 30);
        Consumer<ProofMarks> marks = x -> {
            x.mark(0, 0, 1);
            x.mark(0, 1, 1);
            x.mark(1, 1, 1);
            x.mark(2, 1, 2);
            x.mark(0, 2, 1);
            x.mark(2, 2, 1);
            x.round();
        };
        B.allowed(marks, "not those with too few ticks, or a cross", x -> x.editor(0, 6), 1);
        B.allowed(marks, "not without a tick", x -> x.editor(1, 6), 0);
        B.allowed(marks, "with a tick", x -> x.editor(2, 6), 1);
    }

    private static void editorNoSuch() {
        B.sentence(10, "NO_SUCH if there is no such editor");
        int[] due = {5, 0, 0, 3, 0, 0, 0};
        for (int i = 0; i <= 6; i++) {
            int what = i;
            B.allowed(Bounds.NEW, "editor(0, " + what + ")", x -> x.editor(0, what), due[what]);
            B.allowed(Bounds.NEW, "editor(2, " + what + ")", x -> x.editor(2, what), due[what]);
            B.refused(Scenes::busy, "editor(-1, " + what + ")", x -> x.editor(-1, what), ProofMarks.NO_SUCH);
            B.refused(Scenes::busy, "editor(3, " + what + ")", x -> x.editor(3, what), ProofMarks.NO_SUCH);
        }
        for (int far : Bounds.FAR) {
            B.refused(Scenes::busy, "editor(" + far + ", 0)", x -> x.editor(far, 0), ProofMarks.NO_SUCH);
        }
    }

    private static void editorBadValue() {
        B.sentence(10, "BAD_VALUE if what is out of range");
        for (int i = 0; i <= 2; i++) {
            int editor = i;
            B.allowed(Bounds.NEW, "editor(" + editor + ", 0)", x -> x.editor(editor, 0), 5);
            B.allowed(Bounds.NEW, "editor(" + editor + ", 6)", x -> x.editor(editor, 6), 0);
            B.refused(Scenes::busy, "editor(" + editor + ", -1)", x -> x.editor(editor, -1), ProofMarks.BAD_VALUE);
            B.refused(Scenes::busy, "editor(" + editor + ", 7)", x -> x.editor(editor, 7), ProofMarks.BAD_VALUE);
        }
        for (int far : Bounds.FAR) {
            B.refused(Scenes::busy, "editor(0, " + far + ")", x -> x.editor(0, far), ProofMarks.BAD_VALUE);
        }
    }

    private static void chosenInOrder() {
        B.sentence(11, "Returns a frame that is chosen or printed, in the order in which they were chosen (of one round by numbers).");
        Consumer<ProofMarks> two = x -> {
            Calls.tick(x, 29, 2);
            Calls.tick(x, 7, 2);
            x.round();
            Calls.tick(x, 0, 2);
            Calls.tick(x, 28, 2);
            x.round();
        };
        order("of two rounds", two, 7, 29, 0, 28);
        order("with printed ones", two.andThen(x -> x.print(29, 1)).andThen(x -> x.print(0, 2)), 7, 29, 0, 28);
        order("without a reopened one", two.andThen(x -> x.reopen(29)), 7, 0, 28);
        Consumer<ProofMarks> again = two.andThen(x -> x.reopen(7)).andThen(x -> {
            Calls.tick(x, 7, 3);
            x.round();
        });
        order("with one that was chosen again", again, 29, 0, 28, 7);
        order("with that undone", again.andThen(ProofMarks::undo), 29, 0, 28);
        order("of all frames", Scenes.allChosen(2), IntStream.range(0, 30).toArray());
        Consumer<ProofMarks> last = x -> {
            Calls.tick(x, 1, 2);
            Calls.rounds(x, 98);
            x.reopen(0);
            Calls.tick(x, 0, 2);
            x.round();
        };
        order("of the first and the last round", last, 1, 0);
    }

    private static void order(String when, Consumer<ProofMarks> scene, int... frames) {
        ProofMarks x = new ProofMarks();
        scene.accept(x);
        for (int rank = 0; rank < frames.length; rank++) {
            B.is(when + ": chosen(" + rank + ")", x.chosen(rank), frames[rank]);
        }
        B.is(when + ": chosen(" + frames.length + ")", x.chosen(frames.length), ProofMarks.NO_SUCH);
    }

    private static void chosenNoSuch() {
        B.sentence(11, "NO_SUCH if there are not so many");
        B.refused(Bounds.NEW, "the first one of none", x -> x.chosen(0), ProofMarks.NO_SUCH);
        B.refused(Scenes.rounds(2), "the first one of none, with frames that are out", x -> x.chosen(0), ProofMarks.NO_SUCH);
        B.refused(x -> Calls.tick(x, 0, 3), "one that is ticked only", x -> x.chosen(0), ProofMarks.NO_SUCH);
        B.allowed(Scenes::busy, "the first one of three", x -> x.chosen(0), Scenes.CHOSEN_IN_3);
        B.allowed(Scenes::busy, "the last one of three", x -> x.chosen(2), Scenes.PRINTED);
        B.refused(Scenes::busy, "the fourth one of three", x -> x.chosen(3), ProofMarks.NO_SUCH);
        B.refused(Scenes::busy, "the one before the first", x -> x.chosen(-1), ProofMarks.NO_SUCH);
        B.allowed(Scenes.allChosen(2), "the last one of all", x -> x.chosen(29), 29);
        B.refused(Scenes.allChosen(2), "one more than all", x -> x.chosen(30), ProofMarks.NO_SUCH);
        for (int far : Bounds.FAR) {
            B.refused(Scenes::busy, "chosen(" + far + ")", x -> x.chosen(far), ProofMarks.NO_SUCH);
        }
    }

    private static void countLeast() {
        B.sentence(12, "0 rounds so far, 1 frames that are open, 2 chosen, 3 out, 4 printed, how many, 5 the paper");
        int[] due = {0, 30, 0, 0, 0, 300};
        for (int i = 0; i < due.length; i++) {
            int what = i;
            B.allowed(Bounds.NEW, "count(" + what + ") at first", x -> x.count(what), due[what]);
        }
        B.allowed(Scenes.rounds(2), "no open ones", x -> x.count(1), 0);
        B.allowed(allPrinted(), "no chosen ones", x -> x.count(2), 0);
        B.allowed(allPrinted(), "no paper", x -> x.count(5), 0);
    }

    private static void countMost() {
        B.sentence(12, "0 rounds so far, 1 frames that are open, 2 chosen, 3 out, 4 printed, how many, 5 the paper");
        B.allowed(Scenes.rounds(99), "all rounds", x -> x.count(0), 99);
        B.allowed(Scenes.rounds(99).andThen(ProofMarks::round), "none more than these", x -> x.count(0), 99);
        B.allowed(Scenes.rounds(1), "open ones", x -> x.count(1), 30);
        B.allowed(Scenes.allChosen(1), "chosen ones", x -> x.count(2), 30);
        B.allowed(Scenes.rounds(2), "ones that are out", x -> x.count(3), 30);
        B.allowed(allPrinted(), "printed ones", x -> x.count(4), 30);
        B.allowed(Scenes.muchPaper(999), "the paper", x -> x.count(5), 999);
    }

    /** All frames are printed in the size 1, which takes all of the paper. */
    private static Consumer<ProofMarks> allPrinted() {
        return Scenes.allChosen(1).andThen(x -> {
            for (int frame = 0; frame < Calls.FRAMES; frame++) {
                x.print(frame, 1);
            }
        });
    }

    private static void countPrints() {
        B.sentence(12, "6 paper that prints took so far, 7 prints of the size 1, 8 of 2, 9 of 3 so far");
        int[] due = {300, 30, 0, 0};
        for (int i = 0; i < due.length; i++) {
            int what = 6 + i;
            B.allowed(Bounds.NEW, "count(" + what + ") at first", x -> x.count(what), 0);
            B.allowed(allPrinted(), "count(" + what + ") of thirty", x -> x.count(what), due[i]);
        }
        for (int size = 1; size <= 3; size++) {
            int it = size;
            for (int what = 7; what <= 9; what++) {
                int asked = what;
                B.allowed(Scenes.allChosen(3).andThen(x -> x.print(5, it)), "count(" + what + ") of the size " + it,
                    x -> x.count(asked), asked - 6 == it ? 1 : 0);
            }
            B.allowed(Scenes.allChosen(3).andThen(x -> x.print(5, it)), "its paper", x -> x.count(6), 10 * it * it);
        }
        B.allowed(Scenes.paper(0).andThen(x -> x.print(9, 1)), "one that is refused takes none", x -> x.count(6), 300);
        B.allowed(Scenes.paper(99), "bought paper is not taken back", x -> x.count(6), 300);
    }

    private static void countRows() {
        B.sentence(12, "10 the longest row of frames next to each other in one row of the sheet that are chosen or printed");
        B.is("none", Calls.withChosen().count(10), 0);
        B.is("one", Calls.withChosen(29).count(10), 1);
        B.is("five at the left", Calls.withChosen(6, 7, 8, 9, 10).count(10), 5);
        B.is("five at the right", Calls.withChosen(7, 8, 9, 10, 11).count(10), 5);
        B.is("a whole row", Calls.withChosen(6, 7, 8, 9, 10, 11).count(10), 6);
        B.is("all frames", Calls.withChosen(IntStream.range(0, 30).toArray()).count(10), 6);
        B.is("over the edge", Calls.withChosen(3, 4, 5, 6, 7, 8).count(10), 3);
        B.is("one beside the edge", Calls.withChosen(5, 6, 11, 12).count(10), 1);
        B.is("a gap", Calls.withChosen(0, 1, 2, 4, 5).count(10), 3);
        B.is("a column", Calls.withChosen(5, 11, 17, 23, 29).count(10), 1);
        B.is("the longest in the last row", Calls.withChosen(0, 1, 28, 27, 29).count(10), 3);
        ProofMarks x = Calls.withChosen(12, 13, 14);
        x.print(12, 1);
        B.is("a printed one at the edge", x.count(10), 3);
        x.print(13, 1);
        x.print(14, 1);
        B.is("printed ones alone", x.count(10), 3);
        Calls.rounds(x, 2);
        B.is("others that are out", x.count(10), 3);
    }

    private static void countPad() {
        B.sentence(12, "11 to 14 the settings, 15 the length of the pad, 16 how many changes can be undone");
        B.allowed(Bounds.NEW, "an empty pad", x -> x.count(15), 0);
        B.allowed(Scenes.text("r"), "a character", x -> x.count(15), 1);
        B.allowed(Scenes.text("r;".repeat(40)), "a full pad", x -> x.count(15), 80);
        B.allowed(Scenes.text("r;".repeat(40)).andThen(x -> x.put('r')), "none more than these", x -> x.count(15), 80);
        int[] most = {3, 9, 9, 5};
        for (int setting = 0; setting <= 3; setting++) {
            for (int asked = 0; asked <= 3; asked++) {
                int what = 11 + asked;
                int first = asked == ProofMarks.VETOES ? 3 : 2;
                B.allowed(Scenes.setting(setting, most[setting]), "count(" + what + ") with " + setting + " at its most",
                    x -> x.count(what), asked == setting ? most[setting] : first);
            }
        }
    }

    private static void countChanges() {
        B.sentence(12, "16 how many changes can be undone");
        ProofMarks x = new ProofMarks();
        for (int changes = 0; changes <= 8; changes++) {
            B.is("behind " + changes, x.count(16), Math.min(changes, 6));
            x.buy(1);
        }
        for (int left = 5; left >= 0; left--) {
            x.undo();
            B.is("behind undo() with " + left + " left", x.count(16), left);
        }
        x.undo();
        B.is("none less than 0", x.count(16), 0);
    }

    private static void countBadValue() {
        B.sentence(12, "BAD_VALUE if what is out of range");
        B.allowed(Scenes::busy, "count(0)", x -> x.count(0), 2);
        B.allowed(Scenes::busy, "count(16)", x -> x.count(16), 6);
        B.refused(Scenes::busy, "count(-1)", x -> x.count(-1), ProofMarks.BAD_VALUE);
        B.refused(Scenes::busy, "count(17)", x -> x.count(17), ProofMarks.BAD_VALUE);
        for (int far : Bounds.FAR) {
            B.refused(Scenes::busy, "count(" + far + ")", x -> x.count(far), ProofMarks.BAD_VALUE);
        }
    }

    private static void answersChangeNothing() {
        B.sentence(12, "Returns a number.");
        B.unchanged(Scenes::busy, "count()", x -> {
            for (int what = 0; what <= 16; what++) {
                x.count(what);
            }
        });
        B.sentence(9, "Returns something about a frame.");
        B.unchanged(Scenes::busy, "of()", x -> {
            for (int what = 0; what <= 5; what++) {
                x.of(Scenes.CROSSED, what);
            }
        });
        B.sentence(10, "Returns something about an editor.");
        B.unchanged(Scenes::busy, "editor()", x -> {
            for (int what = 0; what <= 6; what++) {
                x.editor(1, what);
            }
        });
        B.sentence(11, "Returns a frame that is chosen or printed");
        B.unchanged(Scenes::busy, "chosen()", x -> x.chosen(2));
    }
}
