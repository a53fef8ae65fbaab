/** Promises 1 to 8: a new object, and what changes it. */
public final class ChangesTest {
    private static final Due DUE = new Due("ChangesTest");

    public static void main(String[] args) {
        newObject();
        settings();
        settingErrors();
        marks();
        markErrors();
        vetoes();
        arguments();
        argueErrors();
        rounds();
        roundOutcomes();
        dullFrames();
        pointsOfRounds();
        mostRounds();
        prints();
        printErrors();
        buying();
        reopening();
        errorsChangeNothing();
        DUE.end();
    }

    private static void newObject() {
        ProofMarks x = new ProofMarks();
        for (int frame = 0; frame < Calls.FRAMES; frame++) {
            for (int what = 0; what <= 4; what++) {
                DUE.is("new of(" + frame + ", " + what + ")", x.of(frame, what), 0);
            }
            DUE.is("new of(" + frame + ", 5)", x.of(frame, 5), ProofMarks.NONE);
        }
        int[] ofEditor = {5, 0, 0, 3, 0, 0, 0};
        for (int editor = 0; editor < Calls.EDITORS; editor++) {
            for (int what = 0; what < ofEditor.length; what++) {
                DUE.is("new editor(" + editor + ", " + what + ")", x.editor(editor, what), ofEditor[what]);
            }
        }
        int[] counts = {0, 30, 0, 0, 0, 300, 0, 0, 0, 0, 0, 2, 3, 2, 2, 0, 0};
        for (int what = 0; what < counts.length; what++) {
            DUE.is("new count(" + what + ")", x.count(what), counts[what]);
        }
        DUE.is("new chosen(0)", x.chosen(0), ProofMarks.NO_SUCH);
        DUE.is("new undo()", x.undo(), ProofMarks.NOT_POSSIBLE);
        DUE.is("new restore(0)", x.restore(0), ProofMarks.NOT_POSSIBLE);
        DUE.is("new restore(1)", x.restore(1), ProofMarks.NOT_POSSIBLE);
        x.mark(0, 0, 1);
        DUE.is("another new object is its own", new ProofMarks().of(0, 1), 0);
    }

    private static void settings() {
        int[] first = {2, 3, 2, 2};
        int[] least = {1, 0, 1, 1};
        int[] most = {3, 9, 9, 5};
        for (int setting = 0; setting < 4; setting++) {
            ProofMarks x = new ProofMarks();
            DUE.is("set(" + setting + ", least)", x.set(setting, least[setting]), first[setting]);
            DUE.is("set(" + setting + ", most)", x.set(setting, most[setting]), least[setting]);
            DUE.is("set(" + setting + ", same)", x.set(setting, most[setting]), most[setting]);
            for (int other = 0; other < 4; other++) {
                DUE.is("count(11 + " + other + ")", x.count(11 + other), other == setting ? most[other] : first[other]);
            }
            DUE.is("set() is a change", x.count(16), 3);
        }
    }

    private static void settingErrors() {
        int[] least = {1, 0, 1, 1};
        int[] most = {3, 9, 9, 5};
        ProofMarks x = new ProofMarks();
        for (int setting = 0; setting < 4; setting++) {
            DUE.is("set() below", x.set(setting, least[setting] - 1), ProofMarks.BAD_VALUE);
            DUE.is("set() above", x.set(setting, most[setting] + 1), ProofMarks.BAD_VALUE);
            DUE.is("set() far below", x.set(setting, Integer.MIN_VALUE), ProofMarks.BAD_VALUE);
            DUE.is("set() far above", x.set(setting, Integer.MAX_VALUE), ProofMarks.BAD_VALUE);
        }
        for (int setting : new int[] {-1, 4, Integer.MIN_VALUE, Integer.MAX_VALUE}) {
            DUE.is("set(" + setting + ", 1)", x.set(setting, 1), ProofMarks.BAD_VALUE);
        }
        DUE.is("an error of set() is no change", x.count(16), 0);
    }

    private static void marks() {
        ProofMarks x = new ProofMarks();
        DUE.is("a tick on none", x.mark(1, 29, 1), 0);
        DUE.is("a tick on a tick", x.mark(1, 29, 1), 1);
        DUE.is("a cross on a tick", x.mark(1, 29, 2), 1);
        DUE.is("no tick then", x.of(29, 1), 0);
        DUE.is("a cross then", x.of(29, 2), 2);
        DUE.is("a tick on a cross", x.mark(1, 29, 1), 2);
        DUE.is("a tick then", x.of(29, 1), 2);
        DUE.is("no cross then", x.of(29, 2), 0);
        DUE.is("none on a tick", x.mark(1, 29, 0), 1);
        DUE.is("none then", x.of(29, 1), 0);
        DUE.is("none on none", x.mark(1, 29, 0), 0);
        DUE.is("each of these is a change", x.count(16), 6);
        x.mark(0, 7, 1);
        x.mark(1, 7, 2);
        x.mark(2, 7, 1);
        DUE.is("ticks of two", x.of(7, 1), 5);
        DUE.is("a cross of one", x.of(7, 2), 2);
    }

    private static void markErrors() {
        ProofMarks x = Calls.withChosen(3);
        int[] wrong = {-1, Integer.MIN_VALUE, Integer.MAX_VALUE};
        for (int value : wrong) {
            DUE.is("mark(editor " + value + ")", x.mark(value, 0, 1), ProofMarks.NO_SUCH);
            DUE.is("mark(frame " + value + ")", x.mark(0, value, 1), ProofMarks.NO_SUCH);
            DUE.is("mark(mark " + value + ")", x.mark(0, 0, value), ProofMarks.BAD_VALUE);
        }
        DUE.is("mark(3, ..)", x.mark(3, 0, 1), ProofMarks.NO_SUCH);
        DUE.is("mark(.., 30, ..)", x.mark(0, 30, 1), ProofMarks.NO_SUCH);
        DUE.is("mark(.., 3)", x.mark(0, 0, 3), ProofMarks.BAD_VALUE);
        DUE.is("no such frame before a bad mark", x.mark(0, 30, 3), ProofMarks.NO_SUCH);
        DUE.is("a bad mark before a chosen frame", x.mark(0, 3, 3), ProofMarks.BAD_VALUE);
        DUE.is("a chosen frame", x.mark(0, 3, 1), ProofMarks.NOT_POSSIBLE);
        DUE.is("a chosen frame, none", x.mark(0, 3, 0), ProofMarks.NOT_POSSIBLE);
        x.set(ProofMarks.VETOES, 0);
        DUE.is("a chosen frame before too many", x.mark(0, 3, 2), ProofMarks.NOT_POSSIBLE);
        x.print(3, 1);
        DUE.is("a printed frame", x.mark(0, 3, 1), ProofMarks.NOT_POSSIBLE);
        x.round();
        DUE.is("a frame that is out", x.mark(0, 0, 1), ProofMarks.NOT_POSSIBLE);
    }

    private static void vetoes() {
        ProofMarks x = new ProofMarks();
        for (int frame = 0; frame < 3; frame++) {
            DUE.is("a cross within VETOES", x.mark(0, frame, 2), 0);
        }
        DUE.is("one cross too many", x.mark(0, 3, 2), ProofMarks.TOO_MANY);
        DUE.is("a tick instead", x.mark(0, 3, 1), 0);
        DUE.is("one cross too many on a tick", x.mark(0, 3, 2), ProofMarks.TOO_MANY);
        DUE.is("a cross on a cross is none more", x.mark(0, 2, 2), 2);
        DUE.is("another editor has its own", x.mark(1, 3, 2), 0);
        DUE.is("a cross goes", x.mark(0, 2, 1), 2);
        DUE.is("and another comes", x.mark(0, 3, 2), 1);
        x.set(ProofMarks.VETOES, 1);
        DUE.is("crosses that there are stay", x.editor(0, 2), 3);
        DUE.is("a cross above VETOES on itself", x.mark(0, 3, 2), 2);
        DUE.is("one more cross is too many", x.mark(0, 4, 2), ProofMarks.TOO_MANY);
        x.mark(0, 3, 0);
        DUE.is("still too many", x.mark(0, 4, 2), ProofMarks.TOO_MANY);
        x.set(ProofMarks.VETOES, 0);
        DUE.is("no vetoes", x.mark(2, 4, 2), ProofMarks.TOO_MANY);
        x.round();
        x.set(ProofMarks.VETOES, 9);
        for (int frame = 10; frame < 19; frame++) {
            DUE.is("nine crosses after a round", x.mark(0, frame, 2), 0);
        }
        DUE.is("the tenth cross", x.mark(0, 19, 2), ProofMarks.TOO_MANY);
    }

    private static void arguments() {
        ProofMarks x = new ProofMarks();
        x.mark(1, 4, 2);
        x.mark(2, 4, 2);
        DUE.is("both pay", x.argue(0, 1, 4), 0);
        DUE.is("the editor paid", x.editor(0, 0), 3);
        DUE.is("the other one paid", x.editor(1, 0), 3);
        DUE.is("the cross stays", x.of(4, 2), 6);
        DUE.is("both pay again", x.argue(0, 1, 4), 0);
        DUE.is("too few points", x.argue(0, 1, 4), ProofMarks.NOT_POSSIBLE);
        DUE.is("a third one lifts the cross", x.argue(2, 1, 4), 1);
        DUE.is("that one paid", x.editor(2, 0), 3);
        DUE.is("the other one keeps the last point", x.editor(1, 0), 1);
        DUE.is("one cross less", x.of(4, 2), 4);
        DUE.is("no tick instead", x.of(4, 1), 0);
        DUE.is("no cross to argue against", x.argue(2, 1, 4), ProofMarks.NOT_POSSIBLE);
        int[] made = {2, 0, 1};
        int[] lifted = {0, 1, 0};
        for (int editor = 0; editor < Calls.EDITORS; editor++) {
            DUE.is("arguments of " + editor, x.editor(editor, 4), made[editor]);
            DUE.is("crosses of " + editor + " that were lifted", x.editor(editor, 5), lifted[editor]);
        }
        DUE.is("a veto is free again", x.editor(1, 3), 3);
        exactPoints();
    }

    private static void exactPoints() {
        ProofMarks x = new ProofMarks();
        x.set(ProofMarks.ARGUE, 5);
        x.mark(1, 0, 2);
        DUE.is("just enough on both sides", x.argue(0, 1, 0), 0);
        DUE.is("none left", x.editor(0, 0), 0);
        DUE.is("none left there", x.editor(1, 0), 0);
        x.mark(0, 1, 2);
        DUE.is("lifted from one without points", x.argue(2, 0, 1), 1);
        x.set(ProofMarks.ARGUE, 1);
        DUE.is("no point at all", x.argue(2, 1, 0), ProofMarks.NOT_POSSIBLE);
    }

    private static void argueErrors() {
        ProofMarks x = new ProofMarks();
        x.mark(1, 0, 2);
        for (int value : new int[] {-1, 3, Integer.MIN_VALUE, Integer.MAX_VALUE}) {
            DUE.is("argue(editor " + value + ")", x.argue(value, 1, 0), ProofMarks.NO_SUCH);
            DUE.is("argue(other " + value + ")", x.argue(0, value, 0), ProofMarks.NO_SUCH);
            DUE.is("argue(the same " + value + ")", x.argue(value, value, 0), ProofMarks.NO_SUCH);
        }
        for (int value : new int[] {-1, 30, Integer.MIN_VALUE, Integer.MAX_VALUE}) {
            DUE.is("argue(frame " + value + ")", x.argue(0, 1, value), ProofMarks.NO_SUCH);
            DUE.is("argue(frame " + value + ") before the same", x.argue(1, 1, value), ProofMarks.NO_SUCH);
        }
        DUE.is("against oneself", x.argue(1, 1, 0), ProofMarks.BAD_VALUE);
        DUE.is("against none", x.argue(1, 0, 0), ProofMarks.NOT_POSSIBLE);
        x.mark(1, 0, 1);
        DUE.is("against a tick", x.argue(0, 1, 0), ProofMarks.NOT_POSSIBLE);
        x.set(ProofMarks.ARGUE, 6);
        x.mark(1, 0, 2);
        DUE.is("with too few points", x.argue(0, 1, 0), ProofMarks.NOT_POSSIBLE);
        DUE.is("no argument was made", x.editor(0, 4), 0);
        DUE.is("nothing was paid", x.editor(0, 0), 5);
    }

    private static void rounds() {
        ProofMarks x = new ProofMarks();
        Calls.tick(x, 5, 2);
        Calls.tick(x, 6, 3);
        Calls.tick(x, 7, 1);
        x.mark(2, 8, 2);
        DUE.is("two frames are chosen", x.round(), 2);
        DUE.is("the round is counted", x.count(0), 1);
        DUE.is("chosen with two ticks", x.of(5, 4), 2);
        DUE.is("chosen with three ticks", x.of(6, 4), 3);
        DUE.is("too few ticks", x.of(7, 0), Calls.OPEN);
        for (int frame = 5; frame <= 8; frame++) {
            DUE.is("ticks are gone from " + frame, x.of(frame, 1), 0);
            DUE.is("crosses are gone from " + frame, x.of(frame, 2), 0);
        }
        x.set(ProofMarks.NEED, 1);
        Calls.tick(x, 7, 1);
        DUE.is("one tick is enough now", x.round(), 1);
        DUE.is("chosen with one tick", x.of(7, 4), 1);
        DUE.is("in the round 1", x.of(7, 5), 1);
        DUE.is("that one in the round 0", x.of(6, 5), 0);
        ProofMarks y = new ProofMarks();
        y.set(ProofMarks.NEED, 3);
        Calls.tick(y, 0, 2);
        Calls.tick(y, 1, 3);
        DUE.is("three ticks are needed", y.round(), 1);
        DUE.is("two are not enough", y.of(0, 0), Calls.OPEN);
        DUE.is("three are", y.of(1, 0), Calls.CHOSEN);
    }

    private static void roundOutcomes() {
        ProofMarks x = new ProofMarks();
        x.set(ProofMarks.NEED, 1);
        x.set(ProofMarks.DULL, 1);
        // Every triple of marks on a frame of its own: 27 frames; the last three have none.
        x.set(ProofMarks.VETOES, 9);
        for (int frame = 0; frame < 27; frame++) {
            x.mark(0, frame, frame % 3);
            x.mark(1, frame, frame / 3 % 3);
            x.mark(2, frame, frame / 9);
        }
        int chosen = 0;
        int[] due = new int[27];
        for (int frame = 0; frame < 27; frame++) {
            int[] marks = {frame % 3, frame / 3 % 3, frame / 9};
            int ticks = 0;
            int crosses = 0;
            for (int mark : marks) {
                ticks += mark == 1 ? 1 : 0;
                crosses += mark == 2 ? 1 : 0;
            }
            due[frame] = crosses >= 2 ? Calls.OUT : crosses == 1 ? Calls.OPEN : ticks >= 1 ? Calls.CHOSEN : Calls.OUT;
            chosen += due[frame] == Calls.CHOSEN ? 1 : 0;
        }
        DUE.is("all triples: round()", x.round(), chosen);
        for (int frame = 0; frame < 27; frame++) {
            DUE.is("all triples: of(" + frame + ", 0)", x.of(frame, 0), due[frame]);
        }
    }

    private static void dullFrames() {
        ProofMarks x = new ProofMarks();
        x.set(ProofMarks.DULL, 3);
        x.round();
        x.round();
        DUE.is("two rounds without a tick", x.of(0, 3), 2);
        x.mark(0, 1, 1);
        x.mark(0, 2, 2);
        DUE.is("a mark alone counts nothing", x.of(1, 3), 2);
        x.round();
        DUE.is("three rounds without a tick", x.of(0, 0), Calls.OUT);
        DUE.is("they stay counted", x.of(0, 3), 3);
        DUE.is("a tick begins anew", x.of(1, 3), 0);
        DUE.is("and keeps it open", x.of(1, 0), Calls.OPEN);
        DUE.is("a cross begins anew, too", x.of(2, 3), 0);
        DUE.is("and keeps it open, too", x.of(2, 0), Calls.OPEN);
        x.round();
        DUE.is("one round from there", x.of(1, 3), 1);
        DUE.is("a frame that is out counts none", x.of(0, 3), 3);
        x.set(ProofMarks.DULL, 1);
        DUE.is("a lower DULL waits for the round", x.of(1, 0), Calls.OPEN);
        x.mark(2, 2, 1);
        x.round();
        DUE.is("then it is out", x.of(1, 0), Calls.OUT);
        DUE.is("with two", x.of(1, 3), 2);
        DUE.is("a tick saved that one", x.of(2, 0), Calls.OPEN);
    }

    private static void pointsOfRounds() {
        ProofMarks x = new ProofMarks();
        x.round();
        for (int editor = 0; editor < Calls.EDITORS; editor++) {
            DUE.is("two points for " + editor, x.editor(editor, 0), 7);
        }
        Calls.rounds(x, 6);
        DUE.is("nineteen points", x.editor(2, 0), 19);
        x.round();
        DUE.is("twenty at most", x.editor(2, 0), 20);
        x.round();
        DUE.is("twenty still", x.editor(2, 0), 20);
    }

    private static void mostRounds() {
        ProofMarks x = new ProofMarks();
        for (int i = 0; i < 99; i++) {
            DUE.is("round " + i, x.round(), 0);
        }
        x.reopen(0);
        Calls.tick(x, 0, 3);
        DUE.is("the hundredth round", x.round(), ProofMarks.NOT_POSSIBLE);
        DUE.is("99 rounds", x.count(0), 99);
        DUE.is("the marks stay", x.of(0, 1), 7);
        x.undo();
        DUE.is("the hundredth round still", x.round(), ProofMarks.NOT_POSSIBLE);
        Calls.rounds(x, 3);
        for (int i = 0; i < 4; i++) {
            x.undo();
        }
        DUE.is("one round is undone", x.count(0), 98);
        DUE.is("so there can be one", x.round(), 0);
    }

    private static void prints() {
        ProofMarks x = Calls.withChosen(0, 1, 2);
        DUE.is("the size 1", x.print(0, 1), 290);
        DUE.is("the size 2", x.print(1, 2), 250);
        DUE.is("the size 3", x.print(2, 3), 160);
        for (int frame = 0; frame < 3; frame++) {
            DUE.is("printed", x.of(frame, 0), Calls.PRINTED);
            DUE.is("in its size", x.of(frame, 4), frame + 1);
            DUE.is("prints of that size", x.count(7 + frame), 1);
        }
        DUE.is("paper that prints took", x.count(6), 140);
        DUE.is("none is chosen only", x.count(2), 0);
        DUE.is("printed ones", x.count(4), 3);
    }

    private static void printErrors() {
        ProofMarks x = new ProofMarks();
        Calls.tick(x, 0, 2);
        Calls.tick(x, 1, 3);
        Calls.tick(x, 2, 3);
        Calls.tick(x, 3, 3);
        Calls.tick(x, 4, 3);
        x.round();
        for (int value : new int[] {-1, 30, Integer.MIN_VALUE, Integer.MAX_VALUE}) {
            DUE.is("print(" + value + ", 1)", x.print(value, 1), ProofMarks.NO_SUCH);
        }
        for (int value : new int[] {0, 4, -1, Integer.MIN_VALUE, Integer.MAX_VALUE}) {
            DUE.is("print(0, " + value + ")", x.print(0, value), ProofMarks.BAD_VALUE);
            DUE.is("print(9, " + value + ")", x.print(9, value), ProofMarks.BAD_VALUE);
        }
        DUE.is("no such frame first", x.print(30, 0), ProofMarks.NO_SUCH);
        DUE.is("an open frame", x.print(9, 1), ProofMarks.NOT_POSSIBLE);
        DUE.is("a size above its own", x.print(0, 3), ProofMarks.NOT_POSSIBLE);
        DUE.is("its own size", x.print(0, 2), 260);
        DUE.is("a printed frame", x.print(0, 1), ProofMarks.NOT_POSSIBLE);
        x.print(1, 3);
        x.print(2, 3);
        DUE.is("80 left", x.count(5), 80);
        DUE.is("too little paper", x.print(3, 3), ProofMarks.NOT_POSSIBLE);
        x.buy(9);
        DUE.is("one sheet too little", x.print(3, 3), ProofMarks.NOT_POSSIBLE);
        x.buy(1);
        DUE.is("just enough", x.print(3, 3), 0);
        DUE.is("none left", x.print(4, 1), ProofMarks.NOT_POSSIBLE);
        x.round();
        DUE.is("a frame that is out", x.print(9, 1), ProofMarks.NOT_POSSIBLE);
    }

    private static void buying() {
        ProofMarks x = new ProofMarks();
        DUE.is("buy(1)", x.buy(1), 301);
        for (int i = 1; i <= 7; i++) {
            DUE.is("buy(99)", x.buy(99), 301 + 99 * i);
        }
        DUE.is("buy(99) above 999", x.buy(99), 999);
        DUE.is("buy(1) above 999", x.buy(1), 999);
        for (int value : new int[] {0, 100, -1, Integer.MIN_VALUE, Integer.MAX_VALUE}) {
            DUE.is("buy(" + value + ")", x.buy(value), ProofMarks.BAD_VALUE);
        }
        DUE.is("999 paper", x.count(5), 999);
        DUE.is("prints took none of it", x.count(6), 0);
    }

    private static void reopening() {
        ProofMarks x = Calls.withChosen(0, 1);
        x.print(1, 1);
        x.round();
        DUE.is("a chosen one", x.reopen(0), Calls.CHOSEN);
        DUE.is("open again", x.of(0, 0), Calls.OPEN);
        DUE.is("without a size", x.of(0, 4), 0);
        DUE.is("the round is known still", x.of(0, 5), 0);
        DUE.is("one that is out", x.reopen(2), Calls.OUT);
        DUE.is("open again, too", x.of(2, 0), Calls.OPEN);
        DUE.is("without marks", x.of(2, 1) + x.of(2, 2), 0);
        DUE.is("without dull rounds", x.of(2, 3), 0);
        DUE.is("an open one", x.reopen(2), ProofMarks.NOT_POSSIBLE);
        DUE.is("a printed one", x.reopen(1), ProofMarks.NOT_POSSIBLE);
        for (int value : new int[] {-1, 30, Integer.MIN_VALUE, Integer.MAX_VALUE}) {
            DUE.is("reopen(" + value + ")", x.reopen(value), ProofMarks.NO_SUCH);
        }
        x.round();
        DUE.is("it stays open for a round", x.of(2, 0), Calls.OPEN);
        DUE.is("one round without a tick", x.of(2, 3), 1);
        Calls.tick(x, 0, 2);
        x.round();
        DUE.is("chosen again", x.of(0, 0), Calls.CHOSEN);
        DUE.is("with its new size", x.of(0, 4), 2);
        DUE.is("in its new round", x.of(0, 5), 3);
    }

    private static void errorsChangeNothing() {
        ProofMarks x = Calls.withChosen(0);
        x.mark(0, 1, 2);
        Calls.write(x, "q");
        String before = Calls.everything(x);
        x.set(0, 0);
        x.mark(0, 0, 1);
        x.argue(0, 0, 1);
        x.argue(1, 2, 1);
        x.print(1, 1);
        x.buy(100);
        x.reopen(1);
        x.put(0);
        x.carryOut();
        x.save(2);
        x.restore(0);
        DUE.isTrue("errors change nothing", before.equals(Calls.everything(x)));
    }
}
