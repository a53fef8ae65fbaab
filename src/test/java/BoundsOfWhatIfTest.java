import java.util.function.Consumer;

/** The boundary cases that the promises 13 to 17 name. */
public final class BoundsOfWhatIfTest {
    private static final Bounds B = new Bounds("BoundsOfWhatIfTest");
    private static final int FRAME = 29;

    public static void main(String[] args) {
        whyInOrder();
        whyNoSuch();
        ifRoundCounts();
        ifRoundBadValue();
        decidesByMarks();
        decidesWithoutVetoes();
        decidesOpenFrames();
        decidesNoSuch();
        agreeHundredths();
        agreeOnNone();
        agreeOnOpenFrames();
        agreeNoSuch();
        paperForFrames();
        nothingChanges();
        B.end();
    }

    private static Consumer<ProofMarks> marks(int need, String marks) {
        return x -> {
            x.set(ProofMarks.NEED, need);
            for (int editor = 0; editor < Calls.EDITORS; editor++) {
                x.mark(editor, FRAME, marks.charAt(editor) - '0');
            }
        };
    }

    private static void whyInOrder() {
        B.sentence(13, "Returns the first of these that is so: 1 it is not open; 2 it is crossed; 3 it has too few ticks; 0: it would be");
        B.allowed(Scenes::busy, "a chosen one", x -> x.why(Scenes.CHOSEN_IN_3), 1);
        B.allowed(Scenes::busy, "one that is out", x -> x.why(Scenes.OUT), 1);
        B.allowed(Scenes::busy, "a printed one", x -> x.why(Scenes.PRINTED), 1);
        String[] ticks = {"000", "001", "101", "111"};
        for (int need = 1; need <= 3; need++) {
            for (int many = 0; many <= 3; many++) {
                B.allowed(marks(need, ticks[many]), many + " of " + need, x -> x.why(FRAME), many >= need ? 0 : 3);
            }
            for (String marks : new String[] {"002", "211", "121", "220", "222", "012"}) {
                B.allowed(marks(need, marks), "crossed, " + marks, x -> x.why(FRAME), 2);
            }
        }
        B.allowed(marks(2, "110").andThen(ProofMarks::round).andThen(x -> x.reopen(FRAME)), "reopened", x -> x.why(FRAME), 3);
        Consumer<ProofMarks> dull = Scenes.rounds(1).andThen(marks(2, "110"));
        B.allowed(dull, "rounds without a tick do not matter", x -> x.why(FRAME), 0);
    }

    private static void whyNoSuch() {
        B.sentence(13, "NO_SUCH if there is no such frame");
        B.allowed(Bounds.NEW, "the first one", x -> x.why(0), 3);
        B.allowed(Bounds.NEW, "the last one", x -> x.why(29), 3);
        B.refused(Scenes::busy, "the frame -1", x -> x.why(-1), ProofMarks.NO_SUCH);
        B.refused(Scenes::busy, "the frame 30", x -> x.why(30), ProofMarks.NO_SUCH);
        for (int far : Bounds.FAR) {
            B.refused(Scenes::busy, "why(" + far + ")", x -> x.why(far), ProofMarks.NO_SUCH);
        }
    }

    private static void ifRoundCounts() {
        B.sentence(14, "0 how many frames that are open would be chosen, 1 thrown out, 2 open still");
        brings("at first", Bounds.NEW, 0, 0, 30);
        brings("one round before DULL", Scenes.rounds(1), 0, 30, 0);
        brings("all out", Scenes.rounds(2), 0, 0, 0);
        brings("with DULL 1", Scenes.setting(ProofMarks.DULL, 1), 0, 30, 0);
        brings("all chosen", Scenes.allChosen(2), 0, 0, 0);
        brings("all ticked", x -> {
            for (int frame = 0; frame < Calls.FRAMES; frame++) {
                Calls.tick(x, frame, 2);
            }
        }, 30, 0, 0);
        brings("one cross", marks(1, "112"), 0, 0, 30);
        brings("two crosses", marks(1, "122"), 0, 1, 29);
        brings("ticks that are just enough", marks(2, "110"), 1, 0, 29);
        brings("a tick too few", marks(3, "110"), 0, 0, 30);
        brings("of a busy sheet", Scenes::busy, 1, 0, 2);
        for (int round = 0; round <= 3; round++) {
            ProofMarks x = new ProofMarks();
            Scenes.busy(x);
            Calls.tick(x, Scenes.BARE, 2);
            Calls.rounds(x, round);
            int[] told = {x.ifRound(0), x.ifRound(1) + x.count(3), x.ifRound(2)};
            B.is("chosen as told", x.round(), told[0]);
            B.is("out as told", x.count(3), told[1]);
            B.is("open as told", x.count(1), told[2]);
        }
    }

    private static void brings(String when, Consumer<ProofMarks> scene, int chosen, int out, int open) {
        B.allowed(scene, "ifRound(0) " + when, x -> x.ifRound(0), chosen);
        B.allowed(scene, "ifRound(1) " + when, x -> x.ifRound(1), out);
        B.allowed(scene, "ifRound(2) " + when, x -> x.ifRound(2), open);
    }

    private static void ifRoundBadValue() {
        B.sentence(14, "BAD_VALUE if what is out of range");
        B.allowed(Bounds.NEW, "ifRound(0)", x -> x.ifRound(0), 0);
        B.allowed(Bounds.NEW, "ifRound(2)", x -> x.ifRound(2), 30);
        B.refused(Scenes::busy, "ifRound(-1)", x -> x.ifRound(-1), ProofMarks.BAD_VALUE);
        B.refused(Scenes::busy, "ifRound(3)", x -> x.ifRound(3), ProofMarks.BAD_VALUE);
        for (int far : Bounds.FAR) {
            B.refused(Scenes::busy, "ifRound(" + far + ")", x -> x.ifRound(far), ProofMarks.BAD_VALUE);
        }
    }

    private static void decidesByMarks() {
        B.sentence(15, "for whom some other mark (none, a tick or a cross, whatever vetoes there are) would change whether it would be chosen by a round now.");
        decides(1, "000", 7);
        decides(1, "100", 7);
        decides(1, "110", 7);
        decides(1, "200", 1);
        decides(1, "210", 1);
        decides(1, "220", 0);
        decides(2, "000", 0);
        decides(2, "010", 5);
        decides(2, "101", 7);
        decides(2, "111", 7);
        decides(2, "200", 0);
        decides(2, "201", 1);
        decides(2, "121", 2);
        decides(2, "122", 0);
        decides(2, "222", 0);
        decides(3, "000", 0);
        decides(3, "001", 0);
        decides(3, "101", 2);
        decides(3, "111", 7);
        decides(3, "112", 4);
        decides(3, "012", 0);
        decides(3, "221", 0);
    }

    private static void decides(int need, String marks, int due) {
        B.allowed(marks(need, marks), "NEED " + need + ", marks " + marks, x -> x.decides(FRAME), due);
    }

    private static void decidesWithoutVetoes() {
        B.sentence(15, "(none, a tick or a cross, whatever vetoes there are)");
        for (int vetoes : new int[] {0, 9}) {
            Consumer<ProofMarks> scene = marks(2, "110").andThen(Scenes.setting(ProofMarks.VETOES, vetoes));
            B.allowed(scene, "the third one by a cross, VETOES " + vetoes, x -> x.decides(FRAME), 7);
        }
        Consumer<ProofMarks> used = x -> {
            for (int frame = 0; frame < 3; frame++) {
                x.mark(2, frame, 2);
            }
            Calls.tick(x, FRAME, 2);
        };
        B.allowed(used, "the third one without a veto left", x -> x.decides(FRAME), 7);
    }

    private static void decidesOpenFrames() {
        B.sentence(15, "Returns the editors, as a set (empty if it is not open)");
        Consumer<ProofMarks> need1 = x -> {
            Scenes.busy(x);
            x.set(ProofMarks.NEED, 1);
        };
        B.allowed(need1, "an open one", x -> x.decides(Scenes.BARE), 7);
        B.allowed(need1, "a chosen one", x -> x.decides(Scenes.CHOSEN_IN_3), 0);
        B.allowed(need1, "one that is out", x -> x.decides(Scenes.OUT), 0);
        B.allowed(need1, "a printed one", x -> x.decides(Scenes.PRINTED), 0);
        B.allowed(need1.andThen(x -> x.reopen(Scenes.OUT)), "a reopened one", x -> x.decides(Scenes.OUT), 7);
    }

    private static void decidesNoSuch() {
        B.sentence(15, "NO_SUCH if there is no such frame");
        B.allowed(Scenes.setting(ProofMarks.NEED, 1), "the first one", x -> x.decides(0), 7);
        B.allowed(Scenes.setting(ProofMarks.NEED, 1), "the last one", x -> x.decides(29), 7);
        B.refused(Scenes::busy, "the frame -1", x -> x.decides(-1), ProofMarks.NO_SUCH);
        B.refused(Scenes::busy, "the frame 30", x -> x.decides(30), ProofMarks.NO_SUCH);
        for (int far : Bounds.FAR) {
            B.refused(Scenes::busy, "decides(" + far + ")", x -> x.decides(far), ProofMarks.NO_SUCH);
        }
    }

    private static void agreeHundredths() {
        B.sentence(16, "on how many open frames that both have marked their marks are the same, in hundredths of those.");
        int[] rounded = {100, 50, 33, 25, 20, 16, 14, 12, 11};
        for (int both = 1; both <= 9; both++) {
            B.allowed(agreeing(both, 0), "none of " + both, x -> x.agree(0, 2), 0);
            B.allowed(agreeing(both, 1), "one of " + both, x -> x.agree(0, 2), rounded[both - 1]);
            B.allowed(agreeing(both, both), "all of " + both, x -> x.agree(0, 2), 100);
            B.allowed(agreeing(both, 1), "the other way round", x -> x.agree(2, 0), rounded[both - 1]);
        }
        Consumer<ProofMarks> crosses = x -> {
            x.mark(0, 0, 2);
            x.mark(2, 0, 2);
            x.mark(0, 1, 1);
            x.mark(2, 2, 1);
        };
        B.allowed(crosses, "a cross of both; marks of one alone do not count", x -> x.agree(0, 2), 100);
    }

    /** The editors 0 and 2 have both marked the first frames, and some of these alike. */
    private static Consumer<ProofMarks> agreeing(int both, int alike) {
        return x -> {
            x.set(ProofMarks.VETOES, 9);
            for (int frame = 0; frame < both; frame++) {
                x.mark(0, frame, 2);
                x.mark(2, frame, frame < alike ? 2 : 1);
            }
        };
    }

    private static void agreeOnNone() {
        B.sentence(16, "Returns the hundredths (100 if both have marked none)");
        B.allowed(Bounds.NEW, "no marks", x -> x.agree(0, 1), 100);
        B.allowed(Bounds.NEW, "no marks, with oneself", x -> x.agree(2, 2), 100);
        B.allowed(x -> x.mark(0, 0, 1), "marks of one alone", x -> x.agree(0, 1), 100);
        B.allowed(x -> x.mark(1, 0, 1), "marks of the other one alone", x -> x.agree(0, 1), 100);
        Consumer<ProofMarks> apart = x -> {
            x.mark(0, 0, 1);
            x.mark(1, 1, 1);
        };
        B.allowed(apart, "no frame that both have marked", x -> x.agree(0, 1), 100);
        Consumer<ProofMarks> one = apart.andThen(x -> x.mark(1, 0, 2));
        B.allowed(one, "one frame that both have marked", x -> x.agree(0, 1), 0);
        B.allowed(one, "with oneself", x -> x.agree(0, 0), 100);
        B.allowed(one.andThen(x -> x.mark(1, 0, 0)), "none any more", x -> x.agree(0, 1), 100);
    }

    private static void agreeOnOpenFrames() {
        B.sentence(16, "on how many open frames that both have marked their marks are the same");
        Consumer<ProofMarks> ended = agreeing(3, 0).andThen(ProofMarks::round);
        B.allowed(ended, "marks of the round before", x -> x.agree(0, 2), 100);
        B.allowed(ended.andThen(x -> {
            x.mark(0, 9, 1);
            x.mark(2, 9, 2);
        }), "marks of this one", x -> x.agree(0, 2), 0);
    }

    private static void agreeNoSuch() {
        B.sentence(16, "NO_SUCH if there is no such editor");
        B.allowed(Bounds.NEW, "the first and the last one", x -> x.agree(0, 2), 100);
        B.allowed(Bounds.NEW, "the last and the first one", x -> x.agree(2, 0), 100);
        B.refused(Scenes::busy, "agree(-1, 0)", x -> x.agree(-1, 0), ProofMarks.NO_SUCH);
        B.refused(Scenes::busy, "agree(3, 0)", x -> x.agree(3, 0), ProofMarks.NO_SUCH);
        B.refused(Scenes::busy, "agree(0, -1)", x -> x.agree(0, -1), ProofMarks.NO_SUCH);
        B.refused(Scenes::busy, "agree(0, 3)", x -> x.agree(0, 3), ProofMarks.NO_SUCH);
        B.refused(Scenes::busy, "agree(3, 3)", x -> x.agree(3, 3), ProofMarks.NO_SUCH);
        for (int far : Bounds.FAR) {
            B.refused(Scenes::busy, "agree(" + far + ", 0)", x -> x.agree(far, 0), ProofMarks.NO_SUCH);
            B.refused(Scenes::busy, "agree(0, " + far + ")", x -> x.agree(0, far), ProofMarks.NO_SUCH);
        }
    }

    private static void paperForFrames() {
        B.sentence(17, "Tells how much paper all chosen frames would take in their sizes.");
        B.allowed(Bounds.NEW, "none", ProofMarks::paperFor, 0);
        B.allowed(Scenes.rounds(2), "none, all out", ProofMarks::paperFor, 0);
        for (int size = 1; size <= 3; size++) {
            B.allowed(Scenes.allChosen(size), "all of the size " + size, ProofMarks::paperFor, 300 * size * size);
        }
        B.allowed(Scenes::busy, "of a busy sheet", ProofMarks::paperFor, 130);
        B.allowed(Scenes.allChosen(3).andThen(x -> x.print(0, 1)), "without a printed one", ProofMarks::paperFor, 2610);
        B.allowed(Scenes.allChosen(3).andThen(x -> x.reopen(0)), "without a reopened one", ProofMarks::paperFor, 2610);
        B.allowed(x -> Calls.tick(x, 0, 3), "without a ticked one", ProofMarks::paperFor, 0);
        B.allowed(Scenes.paper(0), "also if there is no paper", ProofMarks::paperFor, 180);
    }

    private static void nothingChanges() {
        B.sentence(13, "Tells why a frame would not be chosen by a round now.");
        B.unchanged(Scenes::busy, "why()", x -> x.why(Scenes.TICKED));
        B.sentence(14, "Tells what a round would bring now.");
        B.unchanged(Scenes::busy, "ifRound()", x -> {
            x.ifRound(0);
            x.ifRound(1);
            x.ifRound(2);
        });
        B.sentence(15, "Returns the editors whose mark decides over a frame");
        B.unchanged(Scenes::busy, "decides()", x -> {
            x.decides(Scenes.TICKED);
            x.decides(Scenes.CROSSED);
        });
        B.sentence(16, "Tells how two editors agree");
        B.unchanged(Scenes::busy, "agree()", x -> x.agree(0, 1));
        B.sentence(17, "Returns how much.");
        B.unchanged(Scenes::busy, "paperFor()", ProofMarks::paperFor);
    }
}
