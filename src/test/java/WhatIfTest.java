/** Promises 13 to 17: what if; nothing changes. */
public final class WhatIfTest {
    private static final Due DUE = new Due("WhatIfTest");

    public static void main(String[] args) {
        whyNot();
        whatRoundsBring();
        roundsBringWhatWasTold();
        whoDecides();
        whoDecidesByTrying();
        agreement();
        paperForChosen();
        nothingChanges();
        DUE.end();
    }

    private static void whyNot() {
        ProofMarks x = Calls.withChosen(0, 1);
        x.print(1, 1);
        Calls.tick(x, 2, 2);
        Calls.tick(x, 3, 2);
        x.mark(2, 3, 2);
        Calls.tick(x, 4, 1);
        x.mark(2, 6, 2);
        int[] due = {1, 1, 0, 2, 3, 3, 2};
        for (int frame = 0; frame < due.length; frame++) {
            DUE.is("why(" + frame + ")", x.why(frame), due[frame]);
        }
        x.set(ProofMarks.NEED, 1);
        DUE.is("one tick is enough", x.why(4), 0);
        DUE.is("none is not", x.why(5), 3);
        x.set(ProofMarks.NEED, 3);
        DUE.is("two are too few", x.why(2), 3);
        x.round();
        DUE.is("one that is out", x.why(5), 1);
        for (int value : new int[] {-1, 30, Integer.MIN_VALUE, Integer.MAX_VALUE}) {
            DUE.is("why(" + value + ")", x.why(value), ProofMarks.NO_SUCH);
        }
    }

    private static void whatRoundsBring() {
        ProofMarks x = new ProofMarks();
        brings(x, "at first", 0, 0, 30);
        x.round();
        brings(x, "one dull round later", 0, 30, 0);
        Calls.tick(x, 0, 2);
        Calls.tick(x, 1, 3);
        Calls.tick(x, 2, 1);
        x.mark(0, 3, 2);
        x.mark(0, 4, 2);
        x.mark(1, 4, 2);
        brings(x, "with marks", 2, 26, 2);
        x.round();
        brings(x, "closed frames count no more", 0, 0, 2);
        x.set(ProofMarks.DULL, 1);
        brings(x, "with a lower DULL", 0, 2, 0);
        for (int value : new int[] {-1, 3, Integer.MIN_VALUE, Integer.MAX_VALUE}) {
            DUE.is("ifRound(" + value + ")", x.ifRound(value), ProofMarks.BAD_VALUE);
        }
    }

    private static void brings(ProofMarks x, String when, int chosen, int out, int open) {
        DUE.is(when + ": ifRound(0)", x.ifRound(0), chosen);
        DUE.is(when + ": ifRound(1)", x.ifRound(1), out);
        DUE.is(when + ": ifRound(2)", x.ifRound(2), open);
    }

    private static void roundsBringWhatWasTold() {
        ProofMarks x = new ProofMarks();
        for (int i = 0; i < 12; i++) {
            for (int frame = 0; frame < Calls.FRAMES; frame += 3) {
                x.mark(i % 3, frame, (frame + i) % 3);
                x.mark((i + 1) % 3, frame, (frame / 3 + i) % 3);
            }
            int chosen = x.ifRound(0);
            int out = x.ifRound(1) + x.count(3);
            int open = x.ifRound(2);
            DUE.is("round() brings what ifRound(0) told", x.round(), chosen);
            DUE.is("frames that are out as told", x.count(3), out);
            DUE.is("frames that are open as told", x.count(1), open);
        }
    }

    private static void whoDecides() {
        ProofMarks x = Calls.withChosen(0);
        x.mark(0, 1, 1);
        DUE.is("a chosen frame", x.decides(0), 0);
        DUE.is("one tick: the others", x.decides(1), 6);
        x.mark(1, 1, 1);
        DUE.is("two ticks: everybody (the third one by a cross)", x.decides(1), 7);
        x.mark(2, 1, 2);
        DUE.is("a cross against two ticks: the one who crossed", x.decides(1), 4);
        x.mark(1, 1, 0);
        DUE.is("a cross against one tick: the one who crossed, by a tick", x.decides(1), 4);
        x.mark(1, 1, 2);
        DUE.is("two crosses: nobody", x.decides(1), 0);
        DUE.is("no marks: nobody", x.decides(2), 0);
        x.set(ProofMarks.NEED, 1);
        DUE.is("no marks, one tick needed: everybody", x.decides(2), 7);
        x.set(ProofMarks.VETOES, 0);
        x.mark(0, 2, 1);
        x.mark(1, 2, 1);
        DUE.is("whatever vetoes there are", x.decides(2), 7);
        x.set(ProofMarks.NEED, 3);
        DUE.is("two of three ticks: the third one", x.decides(2), 4);
        x.round();
        DUE.is("one that is out", x.decides(5), 0);
        for (int value : new int[] {-1, 30, Integer.MIN_VALUE, Integer.MAX_VALUE}) {
            DUE.is("decides(" + value + ")", x.decides(value), ProofMarks.NO_SUCH);
        }
    }

    private static void whoDecidesByTrying() {
        for (int need = 1; need <= 3; need++) {
            for (int marks = 0; marks < 27; marks++) {
                ProofMarks x = new ProofMarks();
                x.set(ProofMarks.NEED, need);
                int[] mark = {marks % 3, marks / 3 % 3, marks / 9};
                for (int editor = 0; editor < Calls.EDITORS; editor++) {
                    x.mark(editor, 17, mark[editor]);
                }
                int told = x.decides(17);
                boolean now = x.why(17) == 0;
                for (int editor = 0; editor < Calls.EDITORS; editor++) {
                    boolean changes = false;
                    for (int other = 0; other <= 2; other++) {
                        x.mark(editor, 17, other);
                        changes |= (x.why(17) == 0) != now;
                    }
                    x.mark(editor, 17, mark[editor]);
                    DUE.is("need " + need + " marks " + marks + " editor " + editor, told >> editor & 1, changes ? 1 : 0);
                }
                DUE.is("nobody else", told >> 3, 0);
            }
        }
    }

    private static void agreement() {
        ProofMarks x = new ProofMarks();
        DUE.is("no marks", x.agree(0, 1), 100);
        x.mark(0, 0, 1);
        DUE.is("no frame that both marked", x.agree(0, 1), 100);
        x.mark(1, 0, 2);
        DUE.is("a tick and a cross", x.agree(0, 1), 0);
        x.mark(0, 1, 1);
        x.mark(1, 1, 1);
        DUE.is("one of two", x.agree(0, 1), 50);
        x.mark(0, 2, 2);
        x.mark(1, 2, 2);
        DUE.is("two of three, rounded down", x.agree(0, 1), 66);
        DUE.is("the other way round", x.agree(1, 0), 66);
        x.mark(1, 2, 1);
        DUE.is("one of three, rounded down", x.agree(0, 1), 33);
        DUE.is("with oneself", x.agree(0, 0), 100);
        DUE.is("one without marks with oneself", x.agree(2, 2), 100);
        x.round();
        DUE.is("after a round", x.agree(0, 1), 100);
        for (int value : new int[] {-1, 3, Integer.MIN_VALUE, Integer.MAX_VALUE}) {
            DUE.is("agree(" + value + ", 0)", x.agree(value, 0), ProofMarks.NO_SUCH);
            DUE.is("agree(0, " + value + ")", x.agree(0, value), ProofMarks.NO_SUCH);
        }
    }

    private static void paperForChosen() {
        ProofMarks x = new ProofMarks();
        DUE.is("none chosen", x.paperFor(), 0);
        x.set(ProofMarks.NEED, 1);
        Calls.tick(x, 0, 1);
        Calls.tick(x, 1, 2);
        Calls.tick(x, 2, 3);
        DUE.is("ticks alone take none", x.paperFor(), 0);
        x.round();
        DUE.is("10 and 40 and 90", x.paperFor(), 140);
        x.print(2, 1);
        DUE.is("a printed one takes none any more", x.paperFor(), 50);
        x.reopen(1);
        DUE.is("nor a reopened one", x.paperFor(), 10);
    }

    private static void nothingChanges() {
        ProofMarks x = Calls.withChosen(0);
        Calls.tick(x, 1, 2);
        x.mark(2, 2, 2);
        String before = Calls.everything(x);
        x.why(1);
        x.ifRound(0);
        x.ifRound(1);
        x.decides(1);
        x.decides(2);
        x.agree(0, 1);
        x.paperFor();
        x.chosen(0);
        x.fault();
        DUE.isTrue("what-ifs change nothing", before.equals(Calls.everything(x)));
    }
}
