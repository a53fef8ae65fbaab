import java.util.function.Consumer;

/** The boundary cases that the promises 1 to 8 name, and prints of the Terms. */
public final class BoundsOfChangesTest {
    private static final Bounds B = new Bounds("BoundsOfChangesTest");

    public static void main(String[] args) {
        newObject();
        setKeepsCrosses();
        setAnswers();
        setRefuses();
        markAnswers();
        markNoSuch();
        markBadValue();
        markNotPossible();
        markTooMany();
        argueAnswers();
        argueNoSuch();
        argueBadValue();
        argueNotPossible();
        roundAnswers();
        roundNotPossible();
        printSizes();
        printAnswers();
        printNoSuch();
        printBadValue();
        printNotPossible();
        buyAnswers();
        buyBadValue();
        reopenAnswers();
        reopenOpens();
        reopenNoSuch();
        reopenNotPossible();
        eachIsAChange();
        B.end();
    }

    private static void newObject() {
        B.sentence(1, "Creates a sheet without marks.");
        ProofMarks x = new ProofMarks();
        for (int frame = 0; frame < Calls.FRAMES; frame++) {
            B.is("ticks on " + frame, x.of(frame, 1), 0);
            B.is("crosses on " + frame, x.of(frame, 2), 0);
        }
        for (int editor = 0; editor < Calls.EDITORS; editor++) {
            B.is("ticks of " + editor, x.editor(editor, 1), 0);
            B.is("crosses of " + editor, x.editor(editor, 2), 0);
        }
        B.is("an empty pad", x.count(15), 0);
        B.is("nothing to undo", x.count(16), 0);
        B.is("an empty slot 0", x.restore(0), ProofMarks.NOT_POSSIBLE);
        B.is("an empty slot 1", x.restore(1), ProofMarks.NOT_POSSIBLE);
    }

    private static void setKeepsCrosses() {
        B.sentence(2, "Changes a setting (crosses that there are stay).");
        for (int vetoes = 0; vetoes <= 4; vetoes++) {
            ProofMarks x = threeCrosses(vetoes);
            B.is("crosses with VETOES " + vetoes, x.editor(1, 2), 3);
            B.is("crosses to come", x.editor(1, 3), Math.max(vetoes - 3, 0));
            for (int frame = 0; frame < 3; frame++) {
                B.is("the cross on " + frame, x.of(frame, 2), 2);
            }
            B.is("round() counts them", threeCrosses(vetoes).ifRound(2), 30);
        }
    }

    private static ProofMarks threeCrosses(int vetoes) {
        ProofMarks x = new ProofMarks();
        for (int frame = 0; frame < 3; frame++) {
            x.mark(1, frame, 2);
        }
        x.set(ProofMarks.VETOES, vetoes);
        return x;
    }

    private static void setAnswers() {
        B.sentence(2, "Returns the previous value");
        int[] first = {2, 3, 2, 2};
        for (int setting = 0; setting <= 3; setting++) {
            ProofMarks x = new ProofMarks();
            B.is("of " + setting + " at first", x.set(setting, 1), first[setting]);
            B.is("of " + setting + " then", x.set(setting, 3), 1);
            x.set(setting, 10);
            B.is("of " + setting + " behind an error", x.set(setting, 3), 3);
        }
        B.allowed(Scenes.setting(ProofMarks.VETOES, 0), "that is 0", x -> x.set(ProofMarks.VETOES, 9), 0);
    }

    private static void setRefuses() {
        B.sentence(2, "BAD_VALUE if there is no such setting, or the value is out of its range");
        B.allowed(Bounds.NEW, "the first setting", x -> x.set(0, 1), 2);
        B.allowed(Bounds.NEW, "the last setting", x -> x.set(3, 1), 2);
        B.refused(Scenes::busy, "the setting -1", x -> x.set(-1, 1), ProofMarks.BAD_VALUE);
        B.refused(Scenes::busy, "the setting 4", x -> x.set(4, 1), ProofMarks.BAD_VALUE);
        int[] least = {1, 0, 1, 1};
        int[] most = {3, 9, 9, 5};
        int[] first = {2, 3, 2, 2};
        for (int i = 0; i <= 3; i++) {
            int it = i;
            B.allowed(Bounds.NEW, "the least value of " + it, x -> x.set(it, least[it]), first[it]);
            B.allowed(Bounds.NEW, "the greatest value of " + it, x -> x.set(it, most[it]), first[it]);
            B.refused(Scenes::busy, "a value too small for " + it, x -> x.set(it, least[it] - 1), ProofMarks.BAD_VALUE);
            B.refused(Scenes::busy, "a value too large for " + it, x -> x.set(it, most[it] + 1), ProofMarks.BAD_VALUE);
        }
        for (int far : Bounds.FAR) {
            B.refused(Scenes::busy, "set(" + far + ", 1)", x -> x.set(far, 1), ProofMarks.BAD_VALUE);
            B.refused(Scenes::busy, "set(VETOES, " + far + ")", x -> x.set(ProofMarks.VETOES, far), ProofMarks.BAD_VALUE);
        }
    }

    private static void markAnswers() {
        B.sentence(3, "Returns the mark that was there");
        for (int before = 0; before <= 2; before++) {
            for (int after = 0; after <= 2; after++) {
                ProofMarks x = new ProofMarks();
                x.mark(2, 29, before);
                B.is("mark " + after + " on " + before, x.mark(2, 29, after), before);
            }
        }
        ProofMarks x = new ProofMarks();
        x.mark(0, 0, 1);
        B.is("not the mark of another editor", x.mark(1, 0, 2), 0);
        B.is("nor the mark on another frame", x.mark(0, 1, 2), 0);
        x.round();
        B.is("nor one of the round before", x.mark(0, 0, 2), 0);
    }

    private static void markNoSuch() {
        B.sentence(3, "NO_SUCH if there is no such editor or frame");
        B.allowed(Bounds.NEW, "the first ones", x -> x.mark(0, 0, 1), 0);
        B.allowed(Bounds.NEW, "the last ones", x -> x.mark(2, 29, 1), 0);
        B.refused(Scenes::busy, "the editor -1", x -> x.mark(-1, Scenes.BARE, 1), ProofMarks.NO_SUCH);
        B.refused(Scenes::busy, "the editor 3", x -> x.mark(3, Scenes.BARE, 1), ProofMarks.NO_SUCH);
        B.refused(Scenes::busy, "the frame -1", x -> x.mark(0, -1, 1), ProofMarks.NO_SUCH);
        B.refused(Scenes::busy, "the frame 30", x -> x.mark(0, 30, 1), ProofMarks.NO_SUCH);
        for (int far : Bounds.FAR) {
            B.refused(Scenes::busy, "mark(" + far + ", BARE, 1)", x -> x.mark(far, Scenes.BARE, 1), ProofMarks.NO_SUCH);
            B.refused(Scenes::busy, "mark(0, " + far + ", 1)", x -> x.mark(0, far, 1), ProofMarks.NO_SUCH);
        }
    }

    private static void markBadValue() {
        B.sentence(3, "BAD_VALUE if mark is out of range");
        B.allowed(Scenes::busy, "the least mark", x -> x.mark(0, Scenes.TICKED, 0), 1);
        B.allowed(Scenes::busy, "the greatest mark", x -> x.mark(0, Scenes.TICKED, 2), 1);
        B.refused(Scenes::busy, "the mark -1", x -> x.mark(0, Scenes.TICKED, -1), ProofMarks.BAD_VALUE);
        B.refused(Scenes::busy, "the mark 3", x -> x.mark(0, Scenes.TICKED, 3), ProofMarks.BAD_VALUE);
        for (int far : Bounds.FAR) {
            B.refused(Scenes::busy, "mark(0, TICKED, " + far + ")", x -> x.mark(0, Scenes.TICKED, far), ProofMarks.BAD_VALUE);
        }
    }

    private static void markNotPossible() {
        B.sentence(3, "NOT_POSSIBLE if the frame is not open");
        for (int mark = 0; mark <= 2; mark++) {
            int it = mark;
            B.allowed(Scenes::busy, "an open one", x -> x.mark(2, Scenes.BARE, it), 0);
            B.refused(Scenes::busy, "a chosen one", x -> x.mark(2, Scenes.CHOSEN_IN_2, it), ProofMarks.NOT_POSSIBLE);
            B.refused(Scenes::busy, "one that is out", x -> x.mark(2, Scenes.OUT, it), ProofMarks.NOT_POSSIBLE);
            B.refused(Scenes::busy, "a printed one", x -> x.mark(2, Scenes.PRINTED, it), ProofMarks.NOT_POSSIBLE);
        }
        Consumer<ProofMarks> reopened = x -> {
            Scenes.busy(x);
            x.reopen(Scenes.CHOSEN_IN_2);
            x.reopen(Scenes.OUT);
        };
        B.allowed(reopened, "one that was chosen", x -> x.mark(2, Scenes.CHOSEN_IN_2, 1), 0);
        B.allowed(reopened, "one that was out", x -> x.mark(2, Scenes.OUT, 1), 0);
    }

    private static void markTooMany() {
        B.sentence(3, "TOO_MANY if it would be one cross more than VETOES");
        for (int vetoes = 0; vetoes <= 9; vetoes++) {
            int most = vetoes;
            if (most > 0) {
                B.allowed(crosses(most, most - 1), "the last one of " + most, x -> x.mark(0, 29, 2), 0);
                B.allowed(crosses(most, most), "a cross on a cross with " + most, x -> x.mark(0, 0, 2), 2);
            }
            B.refused(crosses(most, most), "one more than " + most, x -> x.mark(0, 29, 2), ProofMarks.TOO_MANY);
            B.refused(crosses(most, most).andThen(x -> x.mark(0, 29, 1)), "one more than " + most + ", on a tick",
                x -> x.mark(0, 29, 2), ProofMarks.TOO_MANY);
        }
        Consumer<ProofMarks> lowered = crosses(3, 3).andThen(Scenes.setting(ProofMarks.VETOES, 2));
        B.allowed(lowered, "a cross on a cross, which is none more", x -> x.mark(0, 0, 2), 2);
        B.refused(lowered, "one more than there are", x -> x.mark(0, 29, 2), ProofMarks.TOO_MANY);
        Consumer<ProofMarks> two = lowered.andThen(x -> x.mark(0, 0, 0));
        B.refused(two, "one more than VETOES, as before", x -> x.mark(0, 29, 2), ProofMarks.TOO_MANY);
        B.allowed(two.andThen(x -> x.mark(0, 1, 0)), "the last one", x -> x.mark(0, 29, 2), 0);
    }

    private static Consumer<ProofMarks> crosses(int vetoes, int many) {
        return x -> {
            x.set(ProofMarks.VETOES, vetoes);
            for (int frame = 0; frame < many; frame++) {
                x.mark(0, frame, 2);
            }
        };
    }

    private static void argueAnswers() {
        B.sentence(4, "Returns 1 if the cross is lifted, otherwise 0");
        for (int argue = 1; argue <= 9; argue++) {
            B.allowed(arguing(argue, argue, argue), "against just " + argue, x -> x.argue(0, 1, 0), 0);
            B.allowed(arguing(argue, argue + 1, argue), "against more than " + argue, x -> x.argue(0, 1, 0), 0);
            B.allowed(arguing(argue, argue - 1, argue), "against one less than " + argue, x -> x.argue(0, 1, 0), 1);
            B.allowed(arguing(argue, 0, argue), "against none", x -> x.argue(0, 1, 0), 1);
        }
    }

    /** The editor 0 can argue against the cross of the editor 1 on the frame 0; both have points as told. */
    private static Consumer<ProofMarks> arguing(int points, int others, int argue) {
        return Scenes.points(points, others, argue).andThen(x -> x.mark(1, 0, 2));
    }

    private static void argueNoSuch() {
        B.sentence(4, "NO_SUCH if there is no such editor or frame");
        B.allowed(Scenes::busy, "editors and a frame that there are", x -> x.argue(2, 1, Scenes.CROSSED), 0);
        B.allowed(x -> x.mark(2, 29, 2), "the first and the last ones", x -> x.argue(0, 2, 29), 0);
        int frame = Scenes.CROSSED;
        B.refused(Scenes::busy, "the editor -1", x -> x.argue(-1, 1, frame), ProofMarks.NO_SUCH);
        B.refused(Scenes::busy, "the editor 3", x -> x.argue(3, 1, frame), ProofMarks.NO_SUCH);
        B.refused(Scenes::busy, "the other one -1", x -> x.argue(0, -1, frame), ProofMarks.NO_SUCH);
        B.refused(Scenes::busy, "the other one 3", x -> x.argue(0, 3, frame), ProofMarks.NO_SUCH);
        B.refused(Scenes::busy, "the frame -1", x -> x.argue(0, 1, -1), ProofMarks.NO_SUCH);
        B.refused(Scenes::busy, "the frame 30", x -> x.argue(0, 1, 30), ProofMarks.NO_SUCH);
        for (int far : Bounds.FAR) {
            B.refused(Scenes::busy, "argue(" + far + ", 1, CROSSED)", x -> x.argue(far, 1, frame), ProofMarks.NO_SUCH);
            B.refused(Scenes::busy, "argue(0, " + far + ", CROSSED)", x -> x.argue(0, far, frame), ProofMarks.NO_SUCH);
            B.refused(Scenes::busy, "argue(0, 1, " + far + ")", x -> x.argue(0, 1, far), ProofMarks.NO_SUCH);
        }
    }

    private static void argueBadValue() {
        B.sentence(4, "BAD_VALUE if both editors are the same");
        for (int editor = 0; editor <= 2; editor++) {
            int it = editor;
            Consumer<ProofMarks> own = x -> {
                Scenes.busy(x);
                x.mark(it, Scenes.BARE, 2);
            };
            B.refused(own, "a cross of one's own, " + it, x -> x.argue(it, it, Scenes.BARE), ProofMarks.BAD_VALUE);
            B.refused(own, "no cross at all, " + it, x -> x.argue(it, it, Scenes.OUT), ProofMarks.BAD_VALUE);
            B.allowed(own, "the next editor", x -> x.argue((it + 1) % 3, it, Scenes.BARE), 0);
        }
    }

    private static void argueNotPossible() {
        B.sentence(4, "NOT_POSSIBLE if the other one has no cross on the frame, or the editor has fewer points than ARGUE");
        int error = ProofMarks.NOT_POSSIBLE;
        B.allowed(Scenes::busy, "a cross", x -> x.argue(0, 1, Scenes.CROSSED), 0);
        B.refused(Scenes::busy, "a tick", x -> x.argue(1, 0, Scenes.TICKED), error);
        B.refused(Scenes::busy, "no mark", x -> x.argue(0, 1, Scenes.BARE), error);
        B.refused(Scenes::busy, "a cross of somebody else", x -> x.argue(0, 2, Scenes.CROSSED), error);
        B.refused(Scenes::busy, "a cross of the editor alone", x -> x.argue(1, 0, Scenes.CROSSED), error);
        B.refused(Scenes::busy, "a chosen frame", x -> x.argue(0, 1, Scenes.CHOSEN_IN_2), error);
        B.refused(Scenes::busy, "a frame that is out", x -> x.argue(0, 1, Scenes.OUT), error);
        B.refused(Scenes::busy, "a printed frame", x -> x.argue(0, 1, Scenes.PRINTED), error);
        B.refused(arguing(9, 0, 2).andThen(x -> x.argue(0, 1, 0)), "a cross that was lifted", x -> x.argue(0, 1, 0), error);
        B.refused(arguing(9, 9, 2).andThen(ProofMarks::round), "a cross of the round before", x -> x.argue(0, 1, 0), error);
        for (int argue = 1; argue <= 9; argue++) {
            B.allowed(arguing(argue, 20, argue), "points that are just enough", x -> x.argue(0, 1, 0), 0);
            B.refused(arguing(argue - 1, 20, argue), "one point too few", x -> x.argue(0, 1, 0), error);
            B.refused(arguing(argue - 1, 0, argue), "one point too few against none", x -> x.argue(0, 1, 0), error);
        }
    }

    private static void roundAnswers() {
        B.sentence(5, "Returns how many frames are chosen by it");
        B.allowed(Bounds.NEW, "none", ProofMarks::round, 0);
        B.allowed(x -> Calls.tick(x, 29, 2), "one", ProofMarks::round, 1);
        Consumer<ProofMarks> all = x -> {
            for (int frame = 0; frame < Calls.FRAMES; frame++) {
                Calls.tick(x, frame, 2);
            }
        };
        B.allowed(all, "all", ProofMarks::round, 30);
        B.allowed(all.andThen(x -> x.mark(2, 0, 2)), "all but one", ProofMarks::round, 29);
        B.allowed(all.andThen(ProofMarks::round), "those of the round before are none", ProofMarks::round, 0);
    }

    private static void roundNotPossible() {
        B.sentence(5, "NOT_POSSIBLE if there have been 99 rounds");
        B.allowed(Scenes.rounds(98), "behind 98", ProofMarks::round, 0);
        B.refused(Scenes.rounds(99), "behind 99", ProofMarks::round, ProofMarks.NOT_POSSIBLE);
        Consumer<ProofMarks> ticked = x -> {
            Calls.rounds(x, 99);
            x.reopen(0);
            Calls.tick(x, 0, 3);
            x.mark(0, 0, 2);
        };
        B.refused(ticked, "behind 99 with marks", ProofMarks::round, ProofMarks.NOT_POSSIBLE);
        B.allowed(Scenes.rounds(99).andThen(ProofMarks::undo), "behind 99 and an undo()", ProofMarks::round, 0);
        B.allowed(Scenes.rounds(99), "all of the 99 are counted", x -> x.count(0), 99);
    }

    private static void printSizes() {
        B.sentence(Bounds.TERMS, "A chosen frame is printed in a size from 1 to the one with which it was chosen; a print of the size s takes 10 * s * s of the paper.");
        for (int own = 1; own <= 3; own++) {
            for (int size = 1; size <= 3; size++) {
                int it = size;
                String call = "print(0, " + it + ") of the size " + own;
                if (size <= own) {
                    B.allowed(Scenes.allChosen(own), call, x -> x.print(0, it), 300 - 10 * it * it);
                } else {
                    B.refused(Scenes.allChosen(own), call, x -> x.print(0, it), ProofMarks.NOT_POSSIBLE);
                }
            }
            B.refused(Scenes.allChosen(own), "print(0, 0) of the size " + own, x -> x.print(0, 0), ProofMarks.BAD_VALUE);
        }
    }

    private static void printAnswers() {
        B.sentence(6, "Returns the paper that is left");
        B.allowed(Scenes.paper(10), "none", x -> x.print(9, 1), 0);
        B.allowed(Scenes.paper(11), "one", x -> x.print(9, 1), 1);
        B.allowed(Scenes.allChosen(3).andThen(Scenes.muchPaper(999)), "much", x -> x.print(29, 3), 909);
        ProofMarks x = new ProofMarks();
        Scenes.allChosen(1).accept(x);
        for (int frame = 0; frame < Calls.FRAMES; frame++) {
            B.is("after " + frame, x.print(frame, 1), 290 - 10 * frame);
        }
    }

    private static void printNoSuch() {
        B.sentence(6, "NO_SUCH if there is no such frame");
        B.allowed(Scenes.allChosen(2), "the first one", x -> x.print(0, 1), 290);
        B.allowed(Scenes.allChosen(2), "the last one", x -> x.print(29, 1), 290);
        B.refused(Scenes::busy, "the frame -1", x -> x.print(-1, 1), ProofMarks.NO_SUCH);
        B.refused(Scenes::busy, "the frame 30", x -> x.print(30, 1), ProofMarks.NO_SUCH);
        for (int far : Bounds.FAR) {
            B.refused(Scenes::busy, "print(" + far + ", 1)", x -> x.print(far, 1), ProofMarks.NO_SUCH);
        }
    }

    private static void printBadValue() {
        B.sentence(6, "BAD_VALUE if size is out of range");
        int frame = Scenes.CHOSEN_IN_3;
        B.allowed(Scenes::busy, "the size 1", x -> x.print(frame, 1), 207);
        B.allowed(Scenes::busy, "the size 3", x -> x.print(frame, 3), 127);
        B.refused(Scenes::busy, "the size 0", x -> x.print(frame, 0), ProofMarks.BAD_VALUE);
        B.refused(Scenes::busy, "the size 4", x -> x.print(frame, 4), ProofMarks.BAD_VALUE);
        B.refused(Scenes::busy, "the size -1", x -> x.print(frame, -1), ProofMarks.BAD_VALUE);
        for (int far : Bounds.FAR) {
            B.refused(Scenes::busy, "print(CHOSEN_IN_3, " + far + ")", x -> x.print(frame, far), ProofMarks.BAD_VALUE);
        }
    }

    private static void printNotPossible() {
        B.sentence(6, "NOT_POSSIBLE if the frame is not chosen, the size is above its own, or the paper is too little");
        int error = ProofMarks.NOT_POSSIBLE;
        B.allowed(Scenes::busy, "a chosen frame", x -> x.print(Scenes.CHOSEN_IN_2, 1), 207);
        B.refused(Scenes::busy, "an open frame", x -> x.print(Scenes.TICKED, 1), error);
        B.refused(Scenes::busy, "a frame that is out", x -> x.print(Scenes.OUT, 1), error);
        B.refused(Scenes::busy, "a printed frame", x -> x.print(Scenes.PRINTED, 1), error);
        Consumer<ProofMarks> reopened = x -> {
            Scenes.busy(x);
            x.reopen(Scenes.CHOSEN_IN_3);
        };
        B.refused(reopened, "a frame that was chosen", x -> x.print(Scenes.CHOSEN_IN_3, 1), error);
        B.allowed(Scenes::busy, "its own size", x -> x.print(Scenes.CHOSEN_IN_2, 2), 177);
        B.refused(Scenes::busy, "a size above its own", x -> x.print(Scenes.CHOSEN_IN_2, 3), error);
        for (int size = 1; size <= 3; size++) {
            int it = size;
            int price = 10 * it * it;
            B.allowed(Scenes.paper(price), "paper that is just enough for " + it, x -> x.print(9, it), 0);
            B.refused(Scenes.paper(price - 1), "one paper too little for " + it, x -> x.print(9, it), error);
            B.refused(Scenes.paper(0), "no paper for " + it, x -> x.print(9, it), error);
        }
    }

    private static void buyAnswers() {
        B.sentence(7, "Returns how much there is then (999 at most: what is above is lost)");
        B.allowed(Bounds.NEW, "300 and 1", x -> x.buy(1), 301);
        B.allowed(Bounds.NEW, "300 and 99", x -> x.buy(99), 399);
        B.allowed(Scenes.muchPaper(900), "900 and 99", x -> x.buy(99), 999);
        B.allowed(Scenes.muchPaper(901), "901 and 99", x -> x.buy(99), 999);
        B.allowed(Scenes.muchPaper(998), "998 and 1", x -> x.buy(1), 999);
        B.allowed(Scenes.muchPaper(998), "998 and 2", x -> x.buy(2), 999);
        B.allowed(Scenes.muchPaper(999), "999 and 1", x -> x.buy(1), 999);
        B.allowed(Scenes.muchPaper(999), "999 and 99", x -> x.buy(99), 999);
        Consumer<ProofMarks> above = Scenes.allChosen(1).andThen(Scenes.muchPaper(999)).andThen(x -> x.buy(99));
        B.allowed(above, "what was above does not come back", x -> x.print(0, 1), 989);
    }

    private static void buyBadValue() {
        B.sentence(7, "BAD_VALUE if paper is out of range");
        B.allowed(Scenes::busy, "1", x -> x.buy(1), 218);
        B.allowed(Scenes::busy, "99", x -> x.buy(99), 316);
        B.refused(Scenes::busy, "0", x -> x.buy(0), ProofMarks.BAD_VALUE);
        B.refused(Scenes::busy, "100", x -> x.buy(100), ProofMarks.BAD_VALUE);
        B.refused(Scenes::busy, "-1", x -> x.buy(-1), ProofMarks.BAD_VALUE);
        B.refused(Scenes.muchPaper(999), "0 with 999", x -> x.buy(0), ProofMarks.BAD_VALUE);
        B.refused(Scenes.muchPaper(999), "100 with 999", x -> x.buy(100), ProofMarks.BAD_VALUE);
        for (int far : new int[] {Integer.MIN_VALUE, Integer.MAX_VALUE, -256, 257, 65537, 1 << 30}) {
            B.refused(Scenes::busy, "buy(" + far + ")", x -> x.buy(far), ProofMarks.BAD_VALUE);
        }
    }

    private static void reopenAnswers() {
        B.sentence(8, "Returns how it was");
        B.allowed(Scenes::busy, "a chosen one", x -> x.reopen(Scenes.CHOSEN_IN_2), 1);
        B.allowed(Scenes::busy, "one that is out", x -> x.reopen(Scenes.OUT), 2);
    }

    private static void reopenOpens() {
        B.sentence(8, "Opens a frame again that is chosen or out: without marks, with 0 rounds without a tick.");
        for (int frame : new int[] {Scenes.CHOSEN_IN_3, Scenes.OUT}) {
            ProofMarks x = new ProofMarks();
            Scenes.busy(x);
            x.set(ProofMarks.DULL, 1);
            x.reopen(frame);
            B.is("open", x.of(frame, 0), Calls.OPEN);
            B.is("no ticks", x.of(frame, 1), 0);
            B.is("no crosses", x.of(frame, 2), 0);
            B.is("no rounds without a tick", x.of(frame, 3), 0);
            B.is("no size", x.of(frame, 4), 0);
            x.round();
            B.is("one round without a tick", x.of(frame, 3), 1);
            B.is("out, as DULL is 1", x.of(frame, 0), Calls.OUT);
        }
    }

    private static void reopenNoSuch() {
        B.sentence(8, "NO_SUCH if there is no such frame");
        B.allowed(Scenes.rounds(2), "the first one", x -> x.reopen(0), 2);
        B.allowed(Scenes.rounds(2), "the last one", x -> x.reopen(29), 2);
        B.refused(Scenes::busy, "the frame -1", x -> x.reopen(-1), ProofMarks.NO_SUCH);
        B.refused(Scenes::busy, "the frame 30", x -> x.reopen(30), ProofMarks.NO_SUCH);
        for (int far : Bounds.FAR) {
            B.refused(Scenes::busy, "reopen(" + far + ")", x -> x.reopen(far), ProofMarks.NO_SUCH);
        }
    }

    private static void reopenNotPossible() {
        B.sentence(8, "NOT_POSSIBLE if it is open or printed");
        int error = ProofMarks.NOT_POSSIBLE;
        B.refused(Bounds.NEW, "an open one that never was otherwise", x -> x.reopen(0), error);
        B.refused(Scenes::busy, "an open one without marks", x -> x.reopen(Scenes.BARE), error);
        B.refused(Scenes::busy, "an open one with a tick", x -> x.reopen(Scenes.TICKED), error);
        B.refused(Scenes::busy, "an open one with a cross", x -> x.reopen(Scenes.CROSSED), error);
        B.refused(Scenes::busy, "a printed one", x -> x.reopen(Scenes.PRINTED), error);
        Consumer<ProofMarks> once = x -> {
            Scenes.busy(x);
            x.reopen(Scenes.CHOSEN_IN_3);
        };
        B.refused(once, "one that was reopened", x -> x.reopen(Scenes.CHOSEN_IN_3), error);
    }

    private static void eachIsAChange() {
        B.sentence(2, "This is a change.");
        B.isChange(Scenes::busy, "set()", x -> x.set(ProofMarks.VETOES, 0));
        B.sentence(3, "This is a change.");
        B.isChange(Scenes::busy, "mark()", x -> x.mark(1, Scenes.CROSSED, 1));
        B.sentence(4, "This is a change.");
        B.isChange(Scenes::busy, "argue() by which the cross stays", x -> x.argue(2, 1, Scenes.CROSSED));
        B.isChange(arguing(2, 0, 2), "argue() by which it is lifted", x -> x.argue(0, 1, 0));
        B.sentence(5, "This is a change.");
        B.isChange(Scenes::busy, "round()", ProofMarks::round);
        B.isChange(Scenes.rounds(98), "the last round()", ProofMarks::round);
        B.sentence(6, "This is a change.");
        B.isChange(Scenes::busy, "print()", x -> x.print(Scenes.CHOSEN_IN_3, 2));
        B.sentence(7, "This is a change.");
        B.isChange(Scenes::busy, "buy()", x -> x.buy(99));
        B.sentence(8, "This is a change.");
        B.isChange(Scenes::busy, "reopen() of a chosen one", x -> x.reopen(Scenes.CHOSEN_IN_3));
        B.isChange(Scenes::busy, "reopen() of one that is out", x -> x.reopen(Scenes.OUT));
    }
}
