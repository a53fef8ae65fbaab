import java.util.function.Consumer;

/** The boundary cases that the Terms name for texts, and those of the promises 18 to 21. */
public final class BoundsOfTextsTest {
    private static final Bounds B = new Bounds("BoundsOfTextsTest");
    /** 79 characters: 40 rounds. */
    private static final String LONG = "r;".repeat(39) + "r";

    public static void main(String[] args) {
        atMost80();
        ordersInARow();
        editorsInTexts();
        argumentsInTexts();
        printsInTexts();
        purchasesInTexts();
        digits();
        numbers();
        faultsByLargeNumbers();
        faultsFromLeftToRight();
        faultsAtTheEnd();
        ordersMean();
        putAnswers();
        putCharacters();
        putBadValue();
        putTooMany();
        wipeAnswers();
        faultAnswers();
        carryOutUpToAnError();
        carryOutIsOneChange();
        carryOutAnswers();
        carryOutBadText();
        B.end();
    }

    /** Tries the fault of a text, also as the second order of two, where all stands three characters later. */
    private static void fault(String text, int due) {
        B.allowed(Scenes.text(text), "fault() of " + text, ProofMarks::fault, due);
        B.allowed(Scenes.text("b1;" + text), "fault() of b1;" + text, ProofMarks::fault, due == ProofMarks.NONE ? due : due + 3);
    }

    private static void good(String text) {
        fault(text, ProofMarks.NONE);
    }

    private static void atMost80() {
        B.sentence(Bounds.TERMS, "The pad is a text of at most 80 characters, a row of orders");
        B.allowed(Scenes.text(LONG), "79 characters", x -> x.count(15), 79);
        B.allowed(Scenes.text(LONG), "the 80th", x -> x.put(';'), 80);
        B.refused(Scenes.text(LONG + ";"), "the 81st", x -> x.put('r'), ProofMarks.TOO_MANY);
        B.refused(Scenes.text(LONG), "the 80th and the 81st", x -> x.put(Calls.packed(";r")), ProofMarks.TOO_MANY);
        B.allowed(Scenes.text("b1;".repeat(26) + "b1"), "fault() of 80 good characters", ProofMarks::fault, ProofMarks.NONE);
        B.allowed(Scenes.text("b1;".repeat(26) + "b1"), "carryOut() of 80 good characters", ProofMarks::carryOut, 27);
    }

    private static void ordersInARow() {
        B.sentence(Bounds.TERMS, "text = order { \";\" order }");
        good("r");
        good("r;r");
        B.allowed(Scenes.text(LONG), "40 orders", ProofMarks::fault, ProofMarks.NONE);
        fault(";", 0);
        fault("r;;r", 2);
        fault("rr", 1);
        fault("r,r", 1);
        fault("r:r", 1);
        fault("r<r", 1);
        fault("r;", 2);
    }

    private static void editorsInTexts() {
        B.sentence(Bounds.TERMS, "( \"t\" | \"x\" | \"o\" ) digit \".\" number");
        for (String kind : new String[] {"t", "x", "o"}) {
            good(kind + "0.0");
            good(kind + "9.99");
            fault(kind + ".5", 1);
            fault(kind + "00.5", 2);
            fault(kind + "0*5", 2);
            fault(kind + "0..5", 3);
            fault(kind + "0.;", 3);
            fault(kind.toUpperCase() + "0.5", 0);
        }
        for (String near : new String[] {"s", "u", "w", "y", "n", "q", "`", "c"}) {
            fault(near + "0.5", 0);
        }
    }

    private static void argumentsInTexts() {
        B.sentence(Bounds.TERMS, "\"a\" digit digit \".\" number");
        good("a00.0");
        good("a99.99");
        fault("a.0", 1);
        fault("a0.0", 2);
        fault("a000.0", 3);
        fault("a01*0", 3);
        fault("a01..0", 4);
        fault("a0;", 2);
    }

    private static void printsInTexts() {
        B.sentence(Bounds.TERMS, "\"p\" number \"*\" digit");
        good("p0*0");
        good("p99*9");
        fault("p*1", 1);
        fault("p0.1", 2);
        fault("p99.1", 3);
        fault("p0*10", 4);
        fault("p0**1", 3);
        fault("p0*;", 3);
    }

    private static void purchasesInTexts() {
        B.sentence(Bounds.TERMS, "\"b\" number");
        good("b0");
        good("b99");
        fault("b;", 1);
        fault("b.1", 1);
        fault("b-1", 1);
        fault("b1b1", 2);
        B.sentence(Bounds.TERMS, "| \"r\" |");
        good("r");
        fault("r0", 1);
        fault("R", 0);
    }

    private static void digits() {
        B.sentence(Bounds.TERMS, "A digit is 0 to 9, a number 0 to 99, without leading zeros.");
        for (char digit = '0'; digit <= '9'; digit++) {
            good("t" + digit + ".0");
            good("a" + digit + digit + ".0");
            good("p0*" + digit);
        }
        for (char near : new char[] {'/', ':'}) {
            fault("t" + near + ".0", 1);
            fault("a" + near + "0.0", 1);
            fault("a0" + near + ".0", 2);
            fault("p0*" + near, 3);
            fault("b" + near, 1);
            fault("b1" + near, 2);
            fault("t0." + near, 3);
        }
    }

    private static void numbers() {
        B.sentence(Bounds.TERMS, "a number 0 to 99, without leading zeros.");
        for (int number = 0; number <= 99; number++) {
            good("t0." + number);
            good("a01." + number);
            good("p" + number + "*1");
            good("b" + number);
        }
        for (int digit = 0; digit <= 9; digit++) {
            fault("t0.0" + digit, 4);
            fault("a01.0" + digit, 5);
            fault("p0" + digit + "*1", 2);
            fault("b0" + digit, 2);
        }
        fault("b00", 2);
        fault("b000", 2);
    }

    private static void faultsByLargeNumbers() {
        B.sentence(Bounds.TERMS, "(also of a digit by which a number would be above 99)");
        for (int number : new int[] {100, 101, 109, 990, 999}) {
            fault("t0." + number, 5);
            fault("a01." + number, 6);
            fault("p" + number + "*1", 3);
            fault("b" + number, 3);
        }
        fault("b1000", 3);
        good("b99");
        good("b10");
    }

    private static void faultsFromLeftToRight() {
        B.sentence(Bounds.TERMS, "The fault is the index of the first character that cannot stand at its place when the text is read from left to right");
        fault("q", 0);
        fault("!", 0);
        fault("~", 0);
        fault("r;q;q", 2);
        fault("t0.5;x1.;b", 8);
        fault("rq;", 1);
        fault("t0.5x1.5", 4);
        B.allowed(Scenes.text("!" + LONG), "fault() at the first of 80", ProofMarks::fault, 0);
        B.allowed(Scenes.text(LONG + "!"), "fault() at the last of 80", ProofMarks::fault, 79);
        B.allowed(Scenes.text(LONG.substring(0, 78) + "!"), "fault() at the last of 79", ProofMarks::fault, 78);
    }

    private static void faultsAtTheEnd() {
        B.sentence(Bounds.TERMS, "if there is none and the text ends too early (also if it is empty), it is the length of the text.");
        B.allowed(Bounds.NEW, "fault() of the empty text", ProofMarks::fault, 0);
        B.allowed(Scenes.text("r").andThen(ProofMarks::wipe), "fault() of a text that was wiped", ProofMarks::fault, 0);
        for (String whole : new String[] {"t0.5", "x1.29", "o2.0", "a01.7", "p12*3", "b7"}) {
            int most = whole.length() - 1;
            for (int length = 1; length <= most; length++) {
                boolean shorter = whole.startsWith("x1.2") && length == 4;
                fault(whole.substring(0, length), shorter ? ProofMarks.NONE : length);
            }
            good(whole);
            fault(whole + ";", whole.length() + 1);
        }
        B.allowed(Scenes.text(LONG + ";"), "fault() of 80 characters that end too early", ProofMarks::fault, 80);
    }

    private static void ordersMean() {
        B.sentence(Bounds.TERMS, "\"t\", \"x\", \"o\": mark() of an editor on a frame: a tick, a cross, none; \"a\": argue() of an editor against another one on a frame; \"r\": round(); \"p\": print() a frame in a size; \"b\": buy() paper.");
        means("t0.0", x -> x.mark(0, 0, 1));
        means("t2.29", x -> x.mark(2, 29, 1));
        means("x0.0", x -> x.mark(0, 0, 2));
        means("x2.29", x -> x.mark(2, 29, 2));
        means("t1.8;o1.8", Bounds.NEW);
        means("x1.8;o1.8;x1.9", x -> x.mark(1, 9, 2));
        means("x2.29;a02.29", x -> {
            x.mark(2, 29, 2);
            x.argue(0, 2, 29);
        });
        means("x0.0;a10.0;a10.0;a20.0", x -> {
            x.mark(0, 0, 2);
            x.argue(1, 0, 0);
            x.argue(1, 0, 0);
            x.argue(2, 0, 0);
        });
        means("r", ProofMarks::round);
        means("t0.29;t1.29;r;p29*1", x -> {
            Calls.tick(x, 29, 2);
            x.round();
            x.print(29, 1);
        });
        means("t0.0;t1.0;t2.0;r;p0*3", x -> {
            Calls.tick(x, 0, 3);
            x.round();
            x.print(0, 3);
        });
        means("b1", x -> x.buy(1));
        means("b99", x -> x.buy(99));
    }

    private static void means(String text, Consumer<ProofMarks> calls) {
        ProofMarks read = new ProofMarks();
        Calls.write(read, text);
        read.carryOut();
        ProofMarks called = new ProofMarks();
        calls.accept(called);
        B.same("carryOut() of " + text, Calls.state(read), Calls.state(called));
    }

    private static void putAnswers() {
        B.sentence(18, "Returns the length of the pad then");
        for (int many = 1; many <= 8; many++) {
            long characters = Calls.packed("rrrrrrrr".substring(0, many));
            int it = many;
            B.allowed(Bounds.NEW, it + " characters", x -> x.put(characters), it);
            B.allowed(Scenes.text("b1;"), it + " more", x -> x.put(characters), it + 3);
            B.allowed(Scenes.text("r".repeat(80 - it)), it + " that are just enough", x -> x.put(characters), 80);
        }
    }

    private static void putCharacters() {
        B.sentence(18, "its lowest 8 bits are the last character, the next 8 bits the one before, and so on; 8 bits that are 0 mean that there are no more characters, and everything above them has to be 0, too.");
        B.allowed(x -> x.put('b' << 8 | '7'), "fault() of b7", ProofMarks::fault, ProofMarks.NONE);
        B.allowed(x -> x.put('7' << 8 | 'b'), "fault() of 7b", ProofMarks::fault, 0);
        ProofMarks x = new ProofMarks();
        B.is("eight in their order", x.put(Calls.packed("b12;b34;")), 8);
        B.is("eight more", x.put(Calls.packed("b56;b78;")), 16);
        B.is("two more", x.put(Calls.packed("b9")), 18);
        B.is("carryOut() of them", x.carryOut(), 5);
        B.is("their sum", x.count(5), 300 + 12 + 34 + 56 + 78 + 9);
    }

    private static void putBadValue() {
        B.sentence(18, "BAD_VALUE if there is no character, a code is not 33 to 126, or a bit above 8 bits that are 0 is not 0");
        B.refused(Scenes::busy, "no character", x -> x.put(0), ProofMarks.BAD_VALUE);
        for (int place = 0; place <= 7; place++) {
            long others = Calls.packed("rrrrrrrr") & ~(255L << (8 * place));
            for (int code : new int[] {33, 126}) {
                long characters = others | (long) code << (8 * place);
                B.allowed(Bounds.NEW, "the code " + code + " at " + place, x -> x.put(characters), 8);
            }
            for (int code : new int[] {1, 31, 32, 127, 128, 161, 254, 255}) {
                long characters = others | (long) code << (8 * place);
                B.refused(Scenes::busy, "the code " + code + " at " + place, x -> x.put(characters), ProofMarks.BAD_VALUE);
            }
            if (place < 7) {
                B.refused(Scenes::busy, "a gap at " + place, x -> x.put(others), ProofMarks.BAD_VALUE);
            }
        }
        for (int bit = 0; bit <= 63; bit++) {
            long one = 1L << bit;
            // The bits 6 and 14 are the character '@', alone or in front of "r".
            if (bit != 6) {
                B.refused(Scenes::busy, "the bit " + bit + " alone", x -> x.put(one), ProofMarks.BAD_VALUE);
            }
            if (bit >= 8 && bit != 14) {
                B.refused(Scenes::busy, "r and the bit " + bit, x -> x.put('r' | one), ProofMarks.BAD_VALUE);
            }
        }
        for (long characters : new long[] {-1, Long.MIN_VALUE, Long.MAX_VALUE, 'r' - 256L, 1L << 32 | 'r', (long) 'r' << 32}) {
            B.refused(Scenes::busy, "put(" + characters + ")", x -> x.put(characters), ProofMarks.BAD_VALUE);
        }
    }

    private static void putTooMany() {
        B.sentence(18, "TOO_MANY if the pad would be longer than 80");
        for (int many = 1; many <= 8; many++) {
            long characters = Calls.packed("rrrrrrrr".substring(0, many));
            for (int free = 0; free < many; free++) {
                B.refused(Scenes.text(LONG.substring(0, 79 - free) + "!"), many + " where " + free + " are free",
                    x -> x.put(characters), ProofMarks.TOO_MANY);
            }
            int it = many;
            B.allowed(Scenes.text("r".repeat(80 - it)), it + " where as many are free", x -> x.put(characters), 80);
        }
    }

    private static void wipeAnswers() {
        B.sentence(19, "Empties the pad, and returns the length that it had.");
        B.allowed(Bounds.NEW, "of an empty one", ProofMarks::wipe, 0);
        B.allowed(Scenes.text("r"), "of a character", ProofMarks::wipe, 1);
        B.allowed(Scenes.text(LONG + ";"), "of a full one", ProofMarks::wipe, 80);
        B.allowed(Scenes.text(LONG + ";").andThen(ProofMarks::wipe), "of one that was wiped", ProofMarks::wipe, 0);
        B.allowed(Scenes.text(LONG).andThen(ProofMarks::wipe), "the length then", x -> x.count(15), 0);
        B.allowed(Scenes.text(LONG + ";").andThen(ProofMarks::wipe).andThen(Scenes.text(LONG)), "80 more then", x -> x.put('!'), 80);
        B.unchanged(Bounds.NEW, "wipe() of an empty pad", ProofMarks::wipe);
        B.unchanged(Scenes::busy, "wipe(), beside the pad,", x -> {
            x.wipe();
            Calls.write(x, "r;b5;t1.5");
        });
    }

    private static void faultAnswers() {
        B.sentence(20, "Returns the fault of the pad, NONE if there is none.");
        B.allowed(Bounds.NEW, "of the empty pad", ProofMarks::fault, 0);
        B.allowed(Scenes.text("r"), "none", ProofMarks::fault, ProofMarks.NONE);
        B.allowed(Scenes.text("!"), "at the start", ProofMarks::fault, 0);
        B.allowed(Scenes.text(LONG), "none in 79", ProofMarks::fault, ProofMarks.NONE);
        B.allowed(Scenes.text(LONG + ";"), "behind 80", ProofMarks::fault, 80);
        B.allowed(Scenes.text("r;").andThen(ProofMarks::fault).andThen(x -> x.put('r')), "mended", ProofMarks::fault, ProofMarks.NONE);
        B.allowed(Scenes.text("r;").andThen(ProofMarks::fault), "asked again", ProofMarks::fault, 2);
        B.unchanged(Scenes::busy, "fault() of a good text", ProofMarks::fault);
        B.unchanged(Scenes.text("r;!"), "fault() of a bad text", ProofMarks::fault);
    }

    private static void carryOutUpToAnError() {
        B.sentence(21, "Carries the orders of the pad out, one after the other, up to the first one that returns an error, and empties the pad.");
        upTo("b1;b2;b0;b4", 2, 303);
        upTo("b1;b2;b99;b0", 3, 402);
        upTo("b0;b1;b2", 0, 300);
        upTo("b1;b2;b3", 3, 306);
        for (String kind : new String[] {"t", "x", "o"}) {
            upTo("b1;" + kind + "2.29;b2", 3, 303);
            upTo("b1;" + kind + "3.29;b2", 1, 301);
            upTo("b1;" + kind + "9.29;b2", 1, 301);
            upTo("b1;" + kind + "2.30;b2", 1, 301);
            upTo("b1;" + kind + "2.99;b2", 1, 301);
            upTo("b1;r;r;" + kind + "2.29;b2", 3, 301);
        }
        upTo("b1;x0.0;x0.1;x0.2;b2", 5, 303);
        upTo("b1;x0.0;x0.1;x0.2;x0.3;b2", 4, 301);
        upTo("b1;x0.0;a10.0;b2", 4, 303);
        upTo("b1;a10.0;b2", 1, 301);
        upTo("b1;x0.0;a00.0;b2", 2, 301);
        upTo("b1;x0.0;a30.0;b2", 2, 301);
        upTo("b1;x0.0;a13.0;b2", 2, 301);
        upTo("b1;x0.0;a10.30;b2", 2, 301);
        upTo("b1;x0.0;a10.0;a10.0;a10.0;b2", 4, 301);
        upTo("b1;t0.0;t1.0;r;p0*2;b2", 6, 263);
        upTo("b1;t0.0;t1.0;r;p0*3;b2", 4, 301);
        upTo("b1;t0.0;t1.0;r;p0*0;b2", 4, 301);
        upTo("b1;t0.0;t1.0;r;p0*4;b2", 4, 301);
        upTo("b1;t0.0;t1.0;r;t2.0;b2", 4, 301);
        upTo("b1;p30*1;b2", 1, 301);
        upTo("b1;p29*1;b2", 1, 301);
        B.allowed(Scenes.rounds(98).andThen(Scenes.text("b1;r;r;b2")), "one round more than 99", ProofMarks::carryOut, 2);
        B.allowed(Scenes.rounds(99).andThen(Scenes.text("r")), "the round 100", ProofMarks::carryOut, 0);
        B.allowed(Scenes.muchPaper(999).andThen(Scenes.text("b99;b1")), "paper above 999", ProofMarks::carryOut, 2);
    }

    private static void upTo(String text, int orders, int paper) {
        ProofMarks x = new ProofMarks();
        Calls.write(x, text);
        B.is("carryOut() of " + text, x.carryOut(), orders);
        B.is("paper behind " + text, x.count(5), paper);
        B.is("pad behind " + text, x.count(15), 0);
        B.is("fault behind " + text, x.fault(), 0);
    }

    private static void carryOutIsOneChange() {
        B.sentence(21, "This is a change (one, with all of them; also if none is carried out).");
        B.isChange(Scenes::busy, "carryOut() of three orders", ProofMarks::carryOut);
        B.isChange(Scenes.text("b0"), "carryOut() of none", ProofMarks::carryOut);
        B.isChange(Scenes.text("b1"), "carryOut() of one", ProofMarks::carryOut);
        B.isChange(Scenes.text("b1;b2;b0"), "carryOut() up to an error", ProofMarks::carryOut);
        B.isChange(Scenes.text(LONG), "carryOut() of forty", ProofMarks::carryOut);
    }

    private static void carryOutAnswers() {
        B.sentence(21, "Returns how many orders were carried out");
        B.allowed(Scenes.text("r;b0"), "one of two", ProofMarks::carryOut, 1);
        B.allowed(Scenes.text("b0;r"), "none of two", ProofMarks::carryOut, 0);
        B.allowed(Scenes.text("r"), "one of one", ProofMarks::carryOut, 1);
        B.allowed(Scenes.text(LONG), "as many as a pad holds", ProofMarks::carryOut, 40);
        B.allowed(Scenes.text(LONG).andThen(ProofMarks::carryOut).andThen(Scenes.text("r")), "once more", ProofMarks::carryOut, 1);
    }

    private static void carryOutBadText() {
        B.sentence(21, "BAD_TEXT if the pad has a fault (then it stays)");
        for (String text : new String[] {"", "!", "b1;", "b1;b", "b1;b2;!", "b1;b02", "b1;b100", "b1b2", LONG + ";"}) {
            Consumer<ProofMarks> scene = x -> {
                Scenes.busy(x);
                x.wipe();
                Calls.write(x, text);
            };
            B.refused(scene, "carryOut() of '" + text + "'", ProofMarks::carryOut, ProofMarks.BAD_TEXT);
            B.allowed(scene.andThen(ProofMarks::carryOut), "its length", x -> x.count(15), text.length());
        }
        B.allowed(Scenes.text("b1;").andThen(ProofMarks::carryOut).andThen(Scenes.text("b2")), "mended", ProofMarks::carryOut, 2);
        B.refused(Scenes.text("r").andThen(ProofMarks::carryOut), "carried out already", ProofMarks::carryOut, ProofMarks.BAD_TEXT);
    }
}
