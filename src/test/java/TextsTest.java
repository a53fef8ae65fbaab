/** Promises 18 to 21: the pad. */
public final class TextsTest {
    private static final Due DUE = new Due("TextsTest");

    public static void main(String[] args) {
        putting();
        putErrors();
        putTooMany();
        wiping();
        noFaults();
        faults();
        carryingOut();
        carryingOutAll();
        carryingOutUpToAnError();
        carryingOutFaults();
        DUE.end();
    }

    private static void putting() {
        ProofMarks x = new ProofMarks();
        DUE.is("one character", x.put('p'), 1);
        DUE.is("eight characters", x.put(Calls.packed("1*1;t0.1")), 9);
        DUE.is("in their order", x.fault(), ProofMarks.NONE);
        DUE.is("count(15)", x.count(15), 9);
        DUE.is("the least code", x.put(33), 10);
        DUE.is("is a fault at its place", x.fault(), 9);
        DUE.is("the greatest code", x.put(126), 11);
        DUE.is("put() is no change", x.count(16), 0);
    }

    private static void putErrors() {
        ProofMarks x = new ProofMarks();
        long[] wrong = {
            0, 32, 127, 31, 128, 255, -1, Long.MIN_VALUE, Long.MAX_VALUE,
            'r' << 8, ('r' << 16) | 'r', 1L << 32 | 'r', 1L << 63 | 'r', (long) 'r' << 56,
            Calls.packed("r r"), (32L << 8) | 'r', (127L << 8) | 'r', (128L << 56) | Calls.packed("ttttttt"),
        };
        for (long characters : wrong) {
            DUE.is("put(" + characters + ")", x.put(characters), ProofMarks.BAD_VALUE);
        }
        DUE.is("nothing was put", x.count(15), 0);
        DUE.is("eight that are allowed", x.put(Calls.packed("~!~!~!~!")), 8);
    }

    private static void putTooMany() {
        ProofMarks x = new ProofMarks();
        for (int i = 1; i <= 9; i++) {
            x.put(Calls.packed("r;r;r;r;"));
        }
        DUE.is("79", x.put(Calls.packed("r;r;r;r")), 79);
        DUE.is("81", x.put(Calls.packed(";r")), ProofMarks.TOO_MANY);
        DUE.is("a bad value first", x.put(Calls.packed(" r")), ProofMarks.BAD_VALUE);
        DUE.is("79 still", x.count(15), 79);
        DUE.is("without a fault", x.fault(), ProofMarks.NONE);
        DUE.is("80", x.put(';'), 80);
        DUE.is("81 again", x.put('r'), ProofMarks.TOO_MANY);
        DUE.is("too early an end at 80", x.fault(), 80);
    }

    private static void wiping() {
        ProofMarks x = new ProofMarks();
        DUE.is("an empty pad", x.wipe(), 0);
        Calls.write(x, "r;t1.20;");
        DUE.is("eight", x.wipe(), 8);
        DUE.is("none then", x.count(15), 0);
        DUE.is("none again", x.wipe(), 0);
        x.put('r');
        DUE.is("what is put then stands first", x.fault(), ProofMarks.NONE);
        DUE.is("wipe() is no change", x.count(16), 0);
    }

    private static void noFaults() {
        String[] texts = {
            "r", "r;r", "t0.0", "x9.99", "o5.10", "a01.0", "a99.99", "p0*0", "p99*9", "b0", "b9", "b10", "b99",
            "t0.5;x1.29;o2.7;a01.29;r;p12*3;b45", "t0.0;t0.0", "b1;r;b90",
        };
        for (String text : texts) {
            DUE.is("fault() of " + text, faultOf(text), ProofMarks.NONE);
        }
    }

    private static void faults() {
        Object[][] texts = {
            {"", 0}, {";", 0}, {"q", 0}, {"0", 0}, {"R", 0}, {".", 0},
            {"r;", 2}, {"r;;", 2}, {"rr", 1}, {"r;q", 2}, {";r", 0}, {"r1", 1}, {"r,r", 1},
            {"t", 1}, {"t0", 2}, {"t0.", 3}, {"t.", 1}, {"t00", 2}, {"t0;", 2}, {"t0.;", 3}, {"t0.x", 3}, {"tt", 1},
            {"t0.00", 4}, {"t0.01", 4}, {"t0.100", 5}, {"t0.999", 5}, {"t0.5.", 4}, {"t0.1;", 5}, {"t0.12;", 6},
            {"x", 1}, {"x0*", 2}, {"o", 1}, {"o0.5;o", 6}, {"o0,5", 2}, {"x10.5", 2},
            {"a", 1}, {"a0", 2}, {"a01", 3}, {"a01.", 4}, {"a0.1", 2}, {"a012", 3}, {"a01.123", 6}, {"a;", 1}, {"a01.05", 5},
            {"p", 1}, {"p0", 2}, {"p10", 3}, {"p100", 3}, {"p1*", 3}, {"p1*10", 4}, {"p*1", 1}, {"p01*1", 2}, {"p1.1", 2}, {"p1*x", 3},
            {"b", 1}, {"b00", 2}, {"b05", 2}, {"b100", 3}, {"b1*", 2}, {"b99;b", 5}, {"bx", 1}, {"b-1", 1},
            {"r;t0.5;b9x", 9}, {"!", 0}, {"~", 0}, {"t/.0", 1}, {"t:.0", 1},
        };
        for (Object[] text : texts) {
            DUE.is("fault() of " + text[0], faultOf((String) text[0]), (Integer) text[1]);
        }
    }

    private static int faultOf(String text) {
        ProofMarks x = new ProofMarks();
        Calls.write(x, text);
        int fault = x.fault();
        DUE.is("fault() of " + text + " again", x.fault(), fault);
        return fault;
    }

    private static void carryingOut() {
        ProofMarks x = new ProofMarks();
        Calls.write(x, "t0.5;t1.5;t2.5;x0.6;t1.7;o1.7;x1.29;a01.29;b45");
        DUE.is("nine orders", x.carryOut(), 9);
        DUE.is("the pad is empty", x.count(15), 0);
        DUE.is("ticks", x.of(5, 1), 7);
        DUE.is("a cross", x.of(6, 2), 1);
        DUE.is("none", x.of(7, 1), 0);
        DUE.is("the argument was made", x.editor(0, 4), 1);
        DUE.is("by both", x.editor(1, 0), 3);
        DUE.is("the paper", x.count(5), 345);
        DUE.is("one change", x.count(16), 1);
        Calls.write(x, "r;p5*2");
        DUE.is("a round and a print", x.carryOut(), 2);
        DUE.is("the round", x.count(0), 1);
        DUE.is("the print", x.of(5, 4), 2);
        DUE.is("its paper", x.count(5), 305);
        DUE.is("two changes", x.count(16), 2);
        DUE.is("undo() of all of them", x.undo(), 1);
        DUE.is("no round", x.count(0), 0);
        DUE.is("the ticks again", x.of(5, 1), 7);
        DUE.is("the pad does not come back", x.count(15), 0);
    }

    private static void carryingOutAll() {
        ProofMarks x = new ProofMarks();
        Calls.write(x, "r;r;r;r;r;r;r;r;r;r;r;r;r;r;r;r;r;r;r;r;r;r;r;r;r;r;r;r;r;r;r;r;r;r;r;r;r;r;r;b9");
        DUE.is("80 characters", x.count(15), 80);
        DUE.is("40 orders", x.carryOut(), 40);
        DUE.is("39 rounds", x.count(0), 39);
        DUE.is("and the last one", x.count(5), 309);
    }

    private static void carryingOutUpToAnError() {
        String[] texts = {
            "b1;t3.5;b2", "b1;t0.30;b2", "b1;x9.0;b2", "b1;o0.99;b2", "b1;a00.0;b2", "b1;a01.0;b2", "b1;a03.0;b2",
            "b1;p0*1;b2", "b1;p0*0;b2", "b1;p30*1;b2", "b1;b0;b2",
        };
        for (String text : texts) {
            ProofMarks x = new ProofMarks();
            Calls.write(x, text);
            DUE.is("carryOut() of " + text, x.carryOut(), 1);
            DUE.is("paper after " + text, x.count(5), 301);
            DUE.is("pad after " + text, x.count(15), 0);
            DUE.is("changes after " + text, x.count(16), 1);
        }
        ProofMarks x = new ProofMarks();
        Calls.write(x, "b0;b1");
        DUE.is("none is carried out", x.carryOut(), 0);
        DUE.is("no paper", x.count(5), 300);
        DUE.is("but it is a change", x.count(16), 1);
        DUE.is("that can be undone", x.undo(), 0);
        Calls.write(x, "x0.0;x0.1;x0.2;x0.3;x0.4");
        DUE.is("too many crosses", x.carryOut(), 3);
    }

    private static void carryingOutFaults() {
        ProofMarks x = new ProofMarks();
        DUE.is("an empty pad", x.carryOut(), ProofMarks.BAD_TEXT);
        Calls.write(x, "b1;b");
        DUE.is("a fault at the end", x.carryOut(), ProofMarks.BAD_TEXT);
        DUE.is("the pad stays", x.count(15), 4);
        DUE.is("nothing was carried out", x.count(5), 300);
        DUE.is("no change", x.count(16), 0);
        x.put('5');
        DUE.is("mended", x.carryOut(), 2);
        DUE.is("306", x.count(5), 306);
    }
}
