import java.util.function.Consumer;

/** The boundary cases that the document's Terms name for frames, editors, marks and rounds. */
public final class BoundsOfTermsTest {
    private static final Bounds B = new Bounds("BoundsOfTermsTest");

    public static void main(String[] args) {
        errorsInTheirOrder();
        errorsChangeNothing();
        noneBehindErrors();
        numberedFromZero();
        roundedDown();
        setsOfEditors();
        rangesOfSettings();
        theSheet();
        framesAtFirst();
        pointsOfEditors();
        paperOfTheSheet();
        marksInPlaceOfMarks();
        crossesAtATime();
        paying();
        otherOnePaysToo();
        orLosesTheCross();
        marksGo();
        B.end();
    }

    private static void errorsInTheirOrder() {
        B.sentence(Bounds.TERMS, "it names its errors in the order in which they are checked, and the first one that applies is returned");
        Consumer<ProofMarks> noVetoes = x -> {
            Scenes.busy(x);
            x.set(ProofMarks.VETOES, 0);
        };
        B.refused(noVetoes, "mark(3, BARE, 3)", x -> x.mark(3, Scenes.BARE, 3), ProofMarks.NO_SUCH);
        B.refused(noVetoes, "mark(0, 30, 3)", x -> x.mark(0, 30, 3), ProofMarks.NO_SUCH);
        B.refused(noVetoes, "mark(-1, OUT, 2)", x -> x.mark(-1, Scenes.OUT, 2), ProofMarks.NO_SUCH);
        B.refused(noVetoes, "mark(0, OUT, 3)", x -> x.mark(0, Scenes.OUT, 3), ProofMarks.BAD_VALUE);
        B.refused(noVetoes, "mark(0, OUT, -1)", x -> x.mark(0, Scenes.OUT, -1), ProofMarks.BAD_VALUE);
        B.refused(noVetoes, "mark(0, OUT, 2)", x -> x.mark(0, Scenes.OUT, 2), ProofMarks.NOT_POSSIBLE);
        B.refused(noVetoes, "mark(0, BARE, 2)", x -> x.mark(0, Scenes.BARE, 2), ProofMarks.TOO_MANY);
        B.refused(Scenes::busy, "argue(3, 3, BARE)", x -> x.argue(3, 3, Scenes.BARE), ProofMarks.NO_SUCH);
        B.refused(Scenes::busy, "argue(-1, -1, BARE)", x -> x.argue(-1, -1, Scenes.BARE), ProofMarks.NO_SUCH);
        B.refused(Scenes::busy, "argue(0, 0, 30)", x -> x.argue(0, 0, 30), ProofMarks.NO_SUCH);
        B.refused(Scenes::busy, "argue(0, 3, BARE)", x -> x.argue(0, 3, Scenes.BARE), ProofMarks.NO_SUCH);
        B.refused(Scenes::busy, "argue(0, 0, BARE)", x -> x.argue(0, 0, Scenes.BARE), ProofMarks.BAD_VALUE);
        B.refused(Scenes::busy, "print(30, 4)", x -> x.print(30, 4), ProofMarks.NO_SUCH);
        B.refused(Scenes::busy, "print(-1, 0)", x -> x.print(-1, 0), ProofMarks.NO_SUCH);
        B.refused(Scenes::busy, "print(OUT, 4)", x -> x.print(Scenes.OUT, 4), ProofMarks.BAD_VALUE);
        B.refused(Scenes::busy, "print(CHOSEN_IN_2, 4)", x -> x.print(Scenes.CHOSEN_IN_2, 4), ProofMarks.BAD_VALUE);
        B.refused(Scenes::busy, "of(30, 6)", x -> x.of(30, 6), ProofMarks.NO_SUCH);
        B.refused(Scenes::busy, "of(-1, -1)", x -> x.of(-1, -1), ProofMarks.NO_SUCH);
        B.refused(Scenes::busy, "editor(3, 7)", x -> x.editor(3, 7), ProofMarks.NO_SUCH);
        B.refused(Scenes::busy, "editor(-1, -1)", x -> x.editor(-1, -1), ProofMarks.NO_SUCH);
        B.refused(Scenes.text("r;".repeat(40)), "put(a blank) on a full pad", x -> x.put(' '), ProofMarks.BAD_VALUE);
        B.refused(Scenes.text("r;".repeat(40)), "put(0) on a full pad", x -> x.put(0), ProofMarks.BAD_VALUE);
        B.refused(Bounds.NEW, "restore(2) where nothing was saved", x -> x.restore(2), ProofMarks.BAD_VALUE);
        B.refused(Bounds.NEW, "restore(-1) where nothing was saved", x -> x.restore(-1), ProofMarks.BAD_VALUE);
    }

    private static void errorsChangeNothing() {
        B.sentence(Bounds.TERMS, "A call that returns an error changes nothing.");
        B.refused(Scenes::busy, "set(4, 1)", x -> x.set(4, 1), ProofMarks.BAD_VALUE);
        B.refused(Scenes::busy, "set(DULL, 6)", x -> x.set(ProofMarks.DULL, 6), ProofMarks.BAD_VALUE);
        B.refused(Scenes::busy, "mark(3, BARE, 2)", x -> x.mark(3, Scenes.BARE, 2), ProofMarks.NO_SUCH);
        B.refused(Scenes::busy, "mark(1, BARE, 3)", x -> x.mark(1, Scenes.BARE, 3), ProofMarks.BAD_VALUE);
        B.refused(Scenes::busy, "mark(1, CHOSEN_IN_2, 2)", x -> x.mark(1, Scenes.CHOSEN_IN_2, 2), ProofMarks.NOT_POSSIBLE);
        B.refused(Scenes::busy, "argue(3, 1, CROSSED)", x -> x.argue(3, 1, Scenes.CROSSED), ProofMarks.NO_SUCH);
        B.refused(Scenes::busy, "argue(1, 1, CROSSED)", x -> x.argue(1, 1, Scenes.CROSSED), ProofMarks.BAD_VALUE);
        B.refused(Scenes::busy, "argue(1, 0, CROSSED)", x -> x.argue(1, 0, Scenes.CROSSED), ProofMarks.NOT_POSSIBLE);
        B.refused(Scenes::busy, "print(30, 1)", x -> x.print(30, 1), ProofMarks.NO_SUCH);
        B.refused(Scenes::busy, "print(CHOSEN_IN_3, 4)", x -> x.print(Scenes.CHOSEN_IN_3, 4), ProofMarks.BAD_VALUE);
        B.refused(Scenes::busy, "print(CHOSEN_IN_2, 3)", x -> x.print(Scenes.CHOSEN_IN_2, 3), ProofMarks.NOT_POSSIBLE);
        B.refused(Scenes::busy, "print(PRINTED, 1)", x -> x.print(Scenes.PRINTED, 1), ProofMarks.NOT_POSSIBLE);
        B.refused(Scenes::busy, "buy(100)", x -> x.buy(100), ProofMarks.BAD_VALUE);
        B.refused(Scenes::busy, "reopen(30)", x -> x.reopen(30), ProofMarks.NO_SUCH);
        B.refused(Scenes::busy, "reopen(CROSSED)", x -> x.reopen(Scenes.CROSSED), ProofMarks.NOT_POSSIBLE);
        B.refused(Scenes::busy, "reopen(PRINTED)", x -> x.reopen(Scenes.PRINTED), ProofMarks.NOT_POSSIBLE);
        B.refused(Scenes::busy, "of(0, 6)", x -> x.of(0, 6), ProofMarks.BAD_VALUE);
        B.refused(Scenes::busy, "editor(0, 7)", x -> x.editor(0, 7), ProofMarks.BAD_VALUE);
        B.refused(Scenes::busy, "chosen(3)", x -> x.chosen(3), ProofMarks.NO_SUCH);
        B.refused(Scenes::busy, "count(17)", x -> x.count(17), ProofMarks.BAD_VALUE);
        B.refused(Scenes::busy, "why(30)", x -> x.why(30), ProofMarks.NO_SUCH);
        B.refused(Scenes::busy, "ifRound(3)", x -> x.ifRound(3), ProofMarks.BAD_VALUE);
        B.refused(Scenes::busy, "decides(30)", x -> x.decides(30), ProofMarks.NO_SUCH);
        B.refused(Scenes::busy, "agree(0, 3)", x -> x.agree(0, 3), ProofMarks.NO_SUCH);
        B.refused(Scenes::busy, "put(127)", x -> x.put(127), ProofMarks.BAD_VALUE);
        B.refused(Scenes::busy, "save(2)", x -> x.save(2), ProofMarks.BAD_VALUE);
        B.refused(Scenes::busy, "restore(2)", x -> x.restore(2), ProofMarks.BAD_VALUE);
    }

    private static void noneBehindErrors() {
        B.sentence(Bounds.TERMS, "NONE (-6) is not an error; it is returned only if no error applies.");
        B.allowed(Bounds.NEW, "of(0, 5)", x -> x.of(0, 5), ProofMarks.NONE);
        B.allowed(Bounds.NEW, "of(29, 5)", x -> x.of(29, 5), ProofMarks.NONE);
        B.refused(Bounds.NEW, "of(30, 5)", x -> x.of(30, 5), ProofMarks.NO_SUCH);
        B.refused(Bounds.NEW, "of(-1, 5)", x -> x.of(-1, 5), ProofMarks.NO_SUCH);
        B.allowed(Scenes.text("r"), "fault()", ProofMarks::fault, ProofMarks.NONE);
        B.unchanged(Scenes::busy, "fault() that is NONE", ProofMarks::fault);
    }

    private static void numberedFromZero() {
        B.sentence(Bounds.TERMS, "Everything is numbered from 0.");
        for (int last = 0; last <= 1; last++) {
            int editor = 2 * last;
            int frame = 29 * last;
            int slot = last;
            int setting = 3 * last;
            B.allowed(Bounds.NEW, "mark(" + editor + ", " + frame + ", 1)", x -> x.mark(editor, frame, 1), 0);
            B.allowed(Bounds.NEW, "of(" + frame + ", 0)", x -> x.of(frame, 0), 0);
            B.allowed(Bounds.NEW, "editor(" + editor + ", 0)", x -> x.editor(editor, 0), 5);
            B.allowed(Bounds.NEW, "save(" + slot + ")", x -> x.save(slot), 0);
            B.allowed(Bounds.NEW, "set(" + setting + ", 3)", x -> x.set(setting, 3), 2);
            B.allowed(Scenes.allChosen(2), "chosen(" + frame + ")", x -> x.chosen(frame), frame);
        }
        B.allowed(Scenes.allChosen(2), "of(0, 5) of the first round", x -> x.of(0, 5), 0);
        B.refused(Scenes.allChosen(2), "chosen(30)", x -> x.chosen(30), ProofMarks.NO_SUCH);
        B.refused(Scenes.allChosen(2), "chosen(-1)", x -> x.chosen(-1), ProofMarks.NO_SUCH);
    }

    private static void roundedDown() {
        B.sentence(Bounds.TERMS, "Divisions are rounded down.");
        B.allowed(agreeing(1, 3), "agree() on 1 of 3", x -> x.agree(0, 1), 33);
        B.allowed(agreeing(2, 3), "agree() on 2 of 3", x -> x.agree(0, 1), 66);
        B.allowed(agreeing(1, 7), "agree() on 1 of 7", x -> x.agree(0, 1), 14);
        B.allowed(agreeing(6, 7), "agree() on 6 of 7", x -> x.agree(0, 1), 85);
        B.allowed(agreeing(7, 8), "agree() on 7 of 8", x -> x.agree(0, 1), 87);
        B.allowed(agreeing(29, 30), "agree() on 29 of 30", x -> x.agree(0, 1), 96);
        B.allowed(agreeing(1, 4), "agree() on 1 of 4, without a rest", x -> x.agree(0, 1), 25);
    }

    /** The editors 0 and 1 have both marked the first frames, and some of these alike. */
    private static Consumer<ProofMarks> agreeing(int alike, int both) {
        return x -> {
            x.set(ProofMarks.VETOES, 9);
            for (int frame = 0; frame < both; frame++) {
                x.mark(0, frame, 1);
                x.mark(1, frame, frame < alike ? 1 : 2);
            }
        };
    }

    private static void setsOfEditors() {
        B.sentence(Bounds.TERMS, "Sets of editors are bit masks.");
        for (int set = 0; set <= 7; set++) {
            ProofMarks x = new ProofMarks();
            for (int editor = 0; editor < Calls.EDITORS; editor++) {
                x.mark(editor, 0, (set >> editor & 1) != 0 ? 1 : 2);
            }
            B.is("of(0, 1)", x.of(0, 1), set);
            B.is("of(0, 2)", x.of(0, 2), 7 - set);
        }
        for (int editor = 0; editor < Calls.EDITORS; editor++) {
            ProofMarks x = new ProofMarks();
            x.set(ProofMarks.NEED, 3);
            Calls.tick(x, 29, 3);
            x.mark(editor, 29, 0);
            B.is("decides(29) by one tick that lacks", x.decides(29), 1 << editor);
        }
    }

    private static void rangesOfSettings() {
        B.sentence(Bounds.TERMS, "NEED (1 to 3; 2): ticks by which a frame is chosen");
        rangeOf(ProofMarks.NEED, 1, 3, 2);
        B.sentence(Bounds.TERMS, "VETOES (0 to 9; 3): crosses of an editor in a round");
        rangeOf(ProofMarks.VETOES, 0, 9, 3);
        B.sentence(Bounds.TERMS, "ARGUE (1 to 9; 2): points of an argument");
        rangeOf(ProofMarks.ARGUE, 1, 9, 2);
        B.sentence(Bounds.TERMS, "DULL (1 to 5; 2): rounds without a tick behind which a frame is out");
        rangeOf(ProofMarks.DULL, 1, 5, 2);
    }

    private static void rangeOf(int setting, int least, int most, int first) {
        B.allowed(Bounds.NEW, "first value", x -> x.count(11 + setting), first);
        B.allowed(Bounds.NEW, "the least value", x -> x.set(setting, least), first);
        B.allowed(Bounds.NEW, "the greatest value", x -> x.set(setting, most), first);
        B.allowed(Scenes.setting(setting, least), "the least value stands", x -> x.count(11 + setting), least);
        B.allowed(Scenes.setting(setting, most), "the greatest value stands", x -> x.count(11 + setting), most);
        B.refused(Scenes::busy, "one below the least", x -> x.set(setting, least - 1), ProofMarks.BAD_VALUE);
        B.refused(Scenes::busy, "one above the greatest", x -> x.set(setting, most + 1), ProofMarks.BAD_VALUE);
    }

    private static void theSheet() {
        B.sentence(Bounds.TERMS, "The sheet has 5 rows of 6 frames: the frame 6 * row + column, 0 to 29.");
        for (int row = 0; row < 5; row++) {
            int first = 6 * row;
            B.is("the whole row " + row, longest(first, first + 5), 6);
            if (row > 0) {
                B.is("over the edge before the row " + row, longest(first - 1, first), 1);
            }
        }
        B.allowed(Bounds.NEW, "the last frame", x -> x.mark(0, 29, 1), 0);
        B.refused(Scenes::busy, "the frame 30", x -> x.mark(0, 30, 1), ProofMarks.NO_SUCH);
        B.refused(Scenes::busy, "the frame -1", x -> x.mark(0, -1, 1), ProofMarks.NO_SUCH);
    }

    /** The longest row where the frames between two, and these, are chosen. */
    private static int longest(int first, int last) {
        ProofMarks x = new ProofMarks();
        for (int frame = first; frame <= last; frame++) {
            Calls.tick(x, frame, 2);
        }
        x.round();
        return x.count(10);
    }

    private static void framesAtFirst() {
        B.sentence(Bounds.TERMS, "A frame is open (0, at first), chosen (1), out (2), or printed (3); it counts the rounds without a tick (0 at first).");
        for (int frame = 0; frame < Calls.FRAMES; frame++) {
            int it = frame;
            B.allowed(Bounds.NEW, "of(" + it + ", 0)", x -> x.of(it, 0), 0);
            B.allowed(Bounds.NEW, "of(" + it + ", 3)", x -> x.of(it, 3), 0);
        }
        B.allowed(Scenes::busy, "of(BARE, 0)", x -> x.of(Scenes.BARE, 0), 0);
        B.allowed(Scenes::busy, "of(CHOSEN_IN_3, 0)", x -> x.of(Scenes.CHOSEN_IN_3, 0), 1);
        B.allowed(Scenes::busy, "of(OUT, 0)", x -> x.of(Scenes.OUT, 0), 2);
        B.allowed(Scenes::busy, "of(PRINTED, 0)", x -> x.of(Scenes.PRINTED, 0), 3);
    }

    private static void pointsOfEditors() {
        B.sentence(Bounds.TERMS, "There are 3 editors, 0 to 2, each with points (5 at first; 20 at most), and on each open frame a mark: none (0), a tick (1) or a cross (2).");
        for (int editor = 0; editor < Calls.EDITORS; editor++) {
            int it = editor;
            B.allowed(Bounds.NEW, "points of " + it + " at first", x -> x.editor(it, 0), 5);
            B.allowed(Scenes.rounds(7), "points of " + it + " after 7 rounds", x -> x.editor(it, 0), 19);
            B.allowed(Scenes.rounds(8), "points of " + it + " after 8 rounds", x -> x.editor(it, 0), 20);
            B.allowed(Scenes.rounds(9), "points of " + it + " after 9 rounds", x -> x.editor(it, 0), 20);
        }
        B.allowed(Scenes.points(17, 18, 2).andThen(ProofMarks::round), "17 and 2 points", x -> x.editor(0, 0), 19);
        B.allowed(Scenes.points(17, 18, 2).andThen(ProofMarks::round), "18 and 2 points", x -> x.editor(1, 0), 20);
        B.refused(Scenes::busy, "the editor 3", x -> x.editor(3, 0), ProofMarks.NO_SUCH);
        B.refused(Scenes::busy, "the editor -1", x -> x.editor(-1, 0), ProofMarks.NO_SUCH);
        B.refused(Scenes::busy, "the mark 3", x -> x.mark(0, Scenes.BARE, 3), ProofMarks.BAD_VALUE);
        B.refused(Scenes::busy, "the mark -1", x -> x.mark(0, Scenes.BARE, -1), ProofMarks.BAD_VALUE);
    }

    private static void paperOfTheSheet() {
        B.sentence(Bounds.TERMS, "There is paper, 300 at first, 999 at most.");
        B.allowed(Bounds.NEW, "count(5)", x -> x.count(5), 300);
        B.allowed(Scenes.muchPaper(998), "count(5) below the most", x -> x.count(5), 998);
        B.allowed(Scenes.muchPaper(998), "998 and 1", x -> x.buy(1), 999);
        B.allowed(Scenes.muchPaper(999), "999 and 1", x -> x.buy(1), 999);
        B.allowed(Scenes.muchPaper(999).andThen(x -> x.buy(99)), "count(5) at the most", x -> x.count(5), 999);
    }

    private static void marksInPlaceOfMarks() {
        B.sentence(Bounds.TERMS, "An editor marks an open frame, in place of the mark that is there.");
        for (int marks = 0; marks < 9; marks++) {
            int before = marks / 3;
            int after = marks % 3;
            ProofMarks x = new ProofMarks();
            x.mark(1, 8, before);
            x.mark(2, 8, 1);
            B.is("mark " + after + " on " + before, x.mark(1, 8, after), before);
            B.is("ticks", x.of(8, 1), after == 1 ? 6 : 4);
            B.is("crosses", x.of(8, 2), after == 2 ? 2 : 0);
        }
    }

    private static void crossesAtATime() {
        B.sentence(Bounds.TERMS, "The crosses of an editor on open frames are at most VETOES at a time.");
        for (int vetoes = 0; vetoes <= 9; vetoes++) {
            int many = vetoes;
            B.allowed(crosses(2, many), many + " crosses", x -> x.editor(2, 2), many);
            B.refused(crosses(2, many), "one more than " + many, x -> x.mark(2, 29, 2), ProofMarks.TOO_MANY);
            B.allowed(crosses(2, many), "a tick behind " + many, x -> x.mark(2, 29, 1), 0);
            B.allowed(crosses(2, many).andThen(ProofMarks::round), "a round brings back " + many, x -> x.editor(2, 3), many);
        }
        B.allowed(crosses(2, 3), "the crosses of another one", x -> x.mark(1, 29, 2), 0);
        B.allowed(crosses(2, 3).andThen(x -> x.mark(2, 0, 1)), "one in place of another", x -> x.mark(2, 29, 2), 0);
    }

    /** An editor has crossed as many frames as VETOES lets it. */
    private static Consumer<ProofMarks> crosses(int editor, int vetoes) {
        return x -> {
            x.set(ProofMarks.VETOES, vetoes);
            for (int frame = 0; frame < vetoes; frame++) {
                x.mark(editor, frame, 2);
            }
        };
    }

    private static void paying() {
        B.sentence(Bounds.TERMS, "To argue against the cross of another editor on a frame, an editor pays ARGUE points.");
        for (int argue = 1; argue <= 9; argue++) {
            int price = argue;
            Consumer<ProofMarks> enough = Scenes.points(price, 0, price).andThen(x -> x.mark(1, 0, 2));
            B.allowed(enough, "argue() with just " + price, x -> x.argue(0, 1, 0), 1);
            B.allowed(enough.andThen(x -> x.argue(0, 1, 0)), "points left of " + price, x -> x.editor(0, 0), 0);
            Consumer<ProofMarks> tooFew = Scenes.points(price - 1, 0, price).andThen(x -> x.mark(1, 0, 2));
            B.refused(tooFew, "argue() for " + price + " with one point too few", x -> x.argue(0, 1, 0), ProofMarks.NOT_POSSIBLE);
        }
    }

    private static void otherOnePaysToo() {
        B.sentence(Bounds.TERMS, "If the other one has ARGUE points or more, that one pays them, too, and the cross stays");
        for (int argue = 1; argue <= 9; argue++) {
            for (int more = 0; more <= 1; more++) {
                ProofMarks x = new ProofMarks();
                Scenes.points(argue, argue + more, argue).accept(x);
                x.mark(1, 0, 2);
                B.is("argue() against " + (argue + more) + " points for " + argue, x.argue(0, 1, 0), 0);
                B.is("the other one's points", x.editor(1, 0), more);
                B.is("the cross stays", x.of(0, 2), 2);
                B.is("none is lifted", x.editor(1, 5), 0);
            }
        }
    }

    private static void orLosesTheCross() {
        B.sentence(Bounds.TERMS, "otherwise the cross is lifted: no mark is there then.");
        for (int argue = 1; argue <= 9; argue++) {
            ProofMarks x = new ProofMarks();
            Scenes.points(argue, argue - 1, argue).accept(x);
            x.mark(1, 0, 2);
            B.is("argue() against " + (argue - 1) + " points for " + argue, x.argue(0, 1, 0), 1);
            B.is("the other one keeps its points", x.editor(1, 0), argue - 1);
            B.is("no cross", x.of(0, 2), 0);
            B.is("no tick", x.of(0, 1), 0);
            B.is("one is lifted", x.editor(1, 5), 1);
        }
    }

    private static void marksGo() {
        B.sentence(Bounds.TERMS, "Then all marks are gone; each editor gets 2 points; the round is counted (0 at first).");
        ProofMarks x = new ProofMarks();
        for (int frame = 0; frame < Calls.FRAMES; frame++) {
            x.mark(0, frame, 1);
        }
        x.mark(1, 0, 2);
        x.mark(1, 29, 2);
        B.is("rounds at first", x.count(0), 0);
        x.round();
        for (int frame = 0; frame < Calls.FRAMES; frame++) {
            B.is("ticks on " + frame, x.of(frame, 1), 0);
            B.is("crosses on " + frame, x.of(frame, 2), 0);
        }
        for (int editor = 0; editor < Calls.EDITORS; editor++) {
            B.is("points of " + editor, x.editor(editor, 0), 7);
        }
        B.is("rounds then", x.count(0), 1);
        B.allowed(Scenes.rounds(99), "rounds at last", y -> y.count(0), 99);
    }
}
