import java.util.function.Consumer;
import java.util.function.ToIntFunction;

/**
 * What the tests of the document's boundary sentences share. Each test names its promise and quotes its sentence;
 * QuotesTest compares the quotes with the document.
 */
final class Bounds {
    /** The number under which sentences of the document's "Terms" are quoted. */
    static final int TERMS = 0;

    static final Consumer<ProofMarks> NEW = x -> { };

    /** Numbers that are far out, or that would be in range if some of their bits were lost. */
    static final int[] FAR = {
        Integer.MIN_VALUE, Integer.MAX_VALUE, Integer.MIN_VALUE + 1, 32, -32, 256, -255, 65536, 1 << 30,
    };

    private final Due due;
    private String sentence = "no sentence";

    Bounds(String test) {
        due = new Due(test);
    }

    void end() {
        due.end();
    }

    void sentence(int promise, String quote) {
        sentence = (promise == TERMS ? "Terms" : "promise " + promise) + ", \"" + quote + "\": ";
    }

    void is(String call, long got, long want) {
        due.is(sentence + call, got, want);
    }

    void same(String what, String got, String want) {
        due.isTrue(sentence + what + " (got " + got + ", due is " + want + ")", got.equals(want));
    }

    /** Tries a call, with the answer that is due, on a new object that was brought to a scene. */
    void allowed(Consumer<ProofMarks> scene, String call, ToIntFunction<ProofMarks> made, int answer) {
        ProofMarks x = new ProofMarks();
        scene.accept(x);
        is(call, made.applyAsInt(x), answer);
    }

    /** Tries a call that has to be refused, and that nothing is changed by it. */
    void refused(Consumer<ProofMarks> scene, String call, ToIntFunction<ProofMarks> made, int error) {
        allowed(scene, call, made, error);
        unchanged(scene, call, made::applyAsInt);
    }

    /**
     * Compares an object on which a call was made with one on which it was not: what can be seen, and what undo,
     * the slots and the pad bring to light. Each look takes new objects, as an object has 512 calls.
     */
    void unchanged(Consumer<ProofMarks> scene, String call, Consumer<ProofMarks> made) {
        for (int view = 0; view < Views.MANY; view++) {
            ProofMarks with = new ProofMarks();
            ProofMarks without = new ProofMarks();
            scene.accept(with);
            scene.accept(without);
            made.accept(with);
            same(call + " changes nothing, view " + view, Views.of(with, view), Views.of(without, view));
        }
    }

    /** Tries that a call is recorded as one change, and that undo() takes it back. */
    void isChange(Consumer<ProofMarks> scene, String call, Consumer<ProofMarks> made) {
        ProofMarks x = new ProofMarks();
        scene.accept(x);
        int before = x.count(16);
        made.accept(x);
        is(call + " is one change", x.count(16), Math.min(before + 1, 6));
        is("undo() behind " + call, x.undo(), Math.min(before, 5));
        ProofMarks without = new ProofMarks();
        scene.accept(without);
        same("undo() takes back " + call, Calls.state(x), Calls.state(without));
    }
}
