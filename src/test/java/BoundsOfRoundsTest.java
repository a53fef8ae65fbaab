import java.util.function.Consumer;

/** The boundary cases that the Terms name for the end of a round: crosses, ticks, and rounds without a tick. */
public final class BoundsOfRoundsTest {
    private static final Bounds B = new Bounds("BoundsOfRoundsTest");
    private static final int FRAME = 13;

    public static void main(String[] args) {
        withoutATickAndACross();
        crossedByTwoOrMore();
        crossedByOne();
        needTicksOrMore();
        sizeOfTicks();
        dullRoundsOrMore();
        otherwiseOpen();
        onlyOpenFrames();
        B.end();
    }

    /** A sheet on which the editors' marks on FRAME are as told, one digit for each. */
    private static Consumer<ProofMarks> marks(String marks) {
        return x -> {
            for (int editor = 0; editor < Calls.EDITORS; editor++) {
                x.mark(editor, FRAME, marks.charAt(editor) - '0');
            }
        };
    }

    private static Consumer<ProofMarks> settings(int need, int dull) {
        return x -> {
            x.set(ProofMarks.NEED, need);
            x.set(ProofMarks.DULL, dull);
        };
    }

    /** How FRAME is after a round that ends with those marks. */
    private static void becomes(Consumer<ProofMarks> scene, String marks, int due) {
        Consumer<ProofMarks> ended = scene.andThen(marks(marks)).andThen(ProofMarks::round);
        B.allowed(ended, "how it is with the marks " + marks, x -> x.of(FRAME, 0), due);
    }

    private static void withoutATickAndACross() {
        B.sentence(Bounds.TERMS, "without a tick and a cross it has one round more without a tick, otherwise 0 of these.");
        Consumer<ProofMarks> three = settings(2, 5).andThen(Scenes.rounds(3));
        dullAfter(Bounds.NEW, "000", 1);
        dullAfter(three, "000", 4);
        dullAfter(three, "100", 0);
        dullAfter(three, "002", 0);
        dullAfter(three, "012", 0);
        dullAfter(three, "110", 0);
        dullAfter(three, "220", 0);
        dullAfter(three.andThen(marks("100")).andThen(marks("000")), "000", 4);
    }

    private static void dullAfter(Consumer<ProofMarks> scene, String marks, int due) {
        Consumer<ProofMarks> ended = scene.andThen(marks(marks)).andThen(ProofMarks::round);
        B.allowed(ended, "rounds without a tick, with the marks " + marks, x -> x.of(FRAME, 3), due);
    }

    private static void crossedByTwoOrMore() {
        B.sentence(Bounds.TERMS, "Then, if two editors or more have crossed it, it is out");
        Consumer<ProofMarks> easy = settings(1, 5);
        for (String marks : new String[] {"022", "202", "220", "122", "212", "221", "222"}) {
            becomes(easy, marks, Calls.OUT);
        }
        for (String marks : new String[] {"002", "020", "200"}) {
            becomes(easy, marks, Calls.OPEN);
        }
        becomes(easy, "000", Calls.OPEN);
    }

    private static void crossedByOne() {
        B.sentence(Bounds.TERMS, "otherwise, if one has, it stays open");
        Consumer<ProofMarks> strict = settings(1, 1);
        for (String marks : new String[] {"112", "121", "211", "102", "012", "002", "020", "200"}) {
            becomes(strict, marks, Calls.OPEN);
        }
        becomes(strict, "110", Calls.CHOSEN);
        becomes(strict, "000", Calls.OUT);
        becomes(strict, "122", Calls.OUT);
    }

    private static void needTicksOrMore() {
        B.sentence(Bounds.TERMS, "otherwise, with NEED ticks or more, it is chosen");
        String[] marks = {"000", "010", "101", "111"};
        for (int need = 1; need <= 3; need++) {
            for (int ticks = 1; ticks <= 3; ticks++) {
                becomes(settings(need, 5), marks[ticks], ticks >= need ? Calls.CHOSEN : Calls.OPEN);
            }
            becomes(settings(need, 5), marks[0], Calls.OPEN);
        }
        Consumer<ProofMarks> lowered = settings(3, 5).andThen(marks("110")).andThen(Scenes.setting(ProofMarks.NEED, 2));
        B.allowed(lowered, "round() after NEED was lowered to the ticks", ProofMarks::round, 1);
        Consumer<ProofMarks> raised = settings(2, 5).andThen(marks("110")).andThen(Scenes.setting(ProofMarks.NEED, 3));
        B.allowed(raised, "round() after NEED was raised above the ticks", ProofMarks::round, 0);
    }

    private static void sizeOfTicks() {
        B.sentence(Bounds.TERMS, "it is chosen, with the size of its ticks, 1 to 3");
        String[] marks = {"001", "101", "111"};
        for (int ticks = 1; ticks <= 3; ticks++) {
            Consumer<ProofMarks> ended = settings(1, 5).andThen(marks(marks[ticks - 1])).andThen(ProofMarks::round);
            B.allowed(ended, "the size with " + ticks, x -> x.of(FRAME, 4), ticks);
        }
    }

    private static void dullRoundsOrMore() {
        B.sentence(Bounds.TERMS, "otherwise, with DULL rounds without a tick or more, it is out");
        for (int dull = 1; dull <= 5; dull++) {
            int last = dull;
            Consumer<ProofMarks> scene = settings(2, last);
            B.allowed(scene.andThen(Scenes.rounds(last - 1)), "one round before " + last, x -> x.of(FRAME, 0), Calls.OPEN);
            B.allowed(scene.andThen(Scenes.rounds(last)), "behind " + last, x -> x.of(FRAME, 0), Calls.OUT);
            B.allowed(scene.andThen(Scenes.rounds(last)), "their number", x -> x.of(FRAME, 3), last);
        }
        Consumer<ProofMarks> four = settings(2, 5).andThen(Scenes.rounds(4));
        becomes(four.andThen(Scenes.setting(ProofMarks.DULL, 1)), "000", Calls.OUT);
        becomes(four.andThen(Scenes.setting(ProofMarks.DULL, 1)), "100", Calls.OPEN);
        becomes(four.andThen(Scenes.setting(ProofMarks.DULL, 1)), "200", Calls.OPEN);
        B.allowed(four.andThen(Scenes.setting(ProofMarks.DULL, 1)), "no round ended yet", x -> x.of(FRAME, 0), Calls.OPEN);
    }

    private static void otherwiseOpen() {
        B.sentence(Bounds.TERMS, "otherwise it stays open.");
        becomes(settings(3, 1), "110", Calls.OPEN);
        becomes(settings(3, 1), "111", Calls.CHOSEN);
        becomes(settings(2, 1), "001", Calls.OPEN);
        becomes(settings(2, 2), "000", Calls.OPEN);
        becomes(settings(2, 1), "000", Calls.OUT);
    }

    private static void onlyOpenFrames() {
        B.sentence(Bounds.TERMS, "At the end of a round, for each open frame");
        ProofMarks x = new ProofMarks();
        Scenes.busy(x);
        Calls.rounds(x, 5);
        B.is("a chosen one stays", x.of(Scenes.CHOSEN_IN_3, 0), Calls.CHOSEN);
        B.is("its size, too", x.of(Scenes.CHOSEN_IN_3, 4), 3);
        B.is("its round, too", x.of(Scenes.CHOSEN_IN_3, 5), 0);
        B.is("it counts no rounds", x.of(Scenes.CHOSEN_IN_3, 3), 0);
        B.is("a printed one stays", x.of(Scenes.PRINTED, 0), Calls.PRINTED);
        B.is("it counts no rounds, either", x.of(Scenes.PRINTED, 3), 0);
        B.is("one that is out stays", x.of(Scenes.OUT, 0), Calls.OUT);
        B.is("it keeps its rounds", x.of(Scenes.OUT, 3), 2);
        B.is("an open one goes", x.of(Scenes.BARE, 0), Calls.OUT);
    }
}
