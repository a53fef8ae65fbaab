import java.util.Random;

/** All promises: long runs of calls, drawn from fixed seeds, that ProofMarks and the Model must answer alike. */
public final class RandomRunsTest {
    /** An object answers 512 calls; the longest step of a run, which writes a text, makes less than ten. */
    private static final int RUNS = 3000, CALLS = 512, LONGEST_STEP = 10;
    private static final int[] ODD = {-1, -2, 3, 4, 30, 31, 99, 100, Integer.MIN_VALUE, Integer.MAX_VALUE};

    private static final Due DUE = new Due("RandomRunsTest");
    private static final int[] ERRORS = new int[7];

    private final Random random;
    private final ProofMarks x = new ProofMarks();
    private final Model model = new Model();
    /** How many frames a run plays on: with few of them there are more crosses, choices and arguments. */
    private final int frames;
    private final int roundsInHundred;
    private int calls = 0;

    private RandomRunsTest(int seed) {
        random = new Random(seed);
        frames = 1 + random.nextInt(30);
        roundsInHundred = random.nextInt(20);
    }

    public static void main(String[] args) {
        for (int seed = 0; seed < RUNS; seed++) {
            RandomRunsTest run = new RandomRunsTest(seed);
            while (run.calls <= CALLS - LONGEST_STEP) {
                run.step("seed " + seed + " call " + run.calls + ": ");
            }
        }
        for (int code = 1; code <= 6; code++) {
            DUE.isTrue("the runs met the code -" + code, ERRORS[code] > 100);
        }
        DUE.end();
    }

    private void same(String call, int got, int due) {
        DUE.is(call, got, due);
        calls++;
        if (due < 0) {
            ERRORS[-due]++;
        }
    }

    private int odd(int many) {
        return random.nextInt(40) == 0 ? ODD[random.nextInt(ODD.length)] : random.nextInt(many);
    }

    private int frame() {
        return random.nextInt(40) == 0 ? odd(30) : random.nextInt(frames);
    }

    private void step(String when) {
        int kind = random.nextInt(100);
        if (kind < roundsInHundred) {
            same(when + "round", x.round(), model.round(true));
        } else if (kind < 70) {
            change(when);
        } else {
            question(when);
        }
    }

    private void change(String when) {
        int a = odd(3);
        int b = odd(3);
        int f = frame();
        switch (random.nextInt(24)) {
            case 0 -> {
                int setting = odd(4);
                int value = odd(10);
                same(when + "set " + setting + " " + value, x.set(setting, value), model.set(setting, value));
            }
            case 1, 2, 3, 4, 5, 6 -> same(when + "mark " + a + " " + f + " " + b, x.mark(a, f, b), model.mark(a, f, b, true));
            case 7, 8 -> same(when + "tick " + a + " " + f, x.mark(a, f, 1), model.mark(a, f, 1, true));
            case 9, 10, 11 -> same(when + "argue " + a + " " + b + " " + f, x.argue(a, b, f), model.argue(a, b, f, true));
            case 12, 13 -> {
                int size = odd(4);
                same(when + "print " + f + " " + size, x.print(f, size), model.print(f, size, true));
            }
            case 14 -> {
                int paper = odd(110);
                same(when + "buy " + paper, x.buy(paper), model.buy(paper, true));
            }
            case 15, 16 -> same(when + "reopen " + f, x.reopen(f), model.reopen(f));
            case 17, 18 -> write(when);
            case 19, 20 -> same(when + "carryOut", x.carryOut(), model.carryOut());
            case 21 -> same(when + "undo", x.undo(), model.undo());
            case 22 -> {
                int slot = odd(2);
                same(when + "save " + slot, x.save(slot), model.save(slot));
            }
            default -> {
                int slot = odd(2);
                same(when + "restore " + slot, x.restore(slot), model.restore(slot));
            }
        }
    }

    private void question(String when) {
        int f = frame();
        int e = odd(3);
        int other = odd(3);
        switch (random.nextInt(11)) {
            case 0, 1 -> {
                int what = odd(6);
                same(when + "of " + f + " " + what, x.of(f, what), model.of(f, what));
            }
            case 2 -> {
                int what = odd(7);
                same(when + "editor " + e + " " + what, x.editor(e, what), model.editor(e, what));
            }
            case 3 -> {
                int rank = odd(10);
                same(when + "chosen " + rank, x.chosen(rank), model.chosen(rank));
            }
            case 4 -> {
                int what = odd(17);
                same(when + "count " + what, x.count(what), model.count(what));
            }
            case 5 -> same(when + "why " + f, x.why(f), model.why(f));
            case 6 -> {
                int what = odd(3);
                same(when + "ifRound " + what, x.ifRound(what), model.ifRound(what));
            }
            case 7 -> same(when + "decides " + f, x.decides(f), model.decides(f));
            case 8 -> same(when + "agree " + e + " " + other, x.agree(e, other), model.agree(e, other));
            case 9 -> same(when + "paperFor", x.paperFor(), model.paperFor());
            default -> same(when + "fault", x.fault(), model.fault());
        }
    }

    /** Mostly whole orders, sometimes spoiled ones or any number at all. */
    private void write(String when) {
        if (random.nextInt(12) == 0) {
            same(when + "wipe", x.wipe(), model.wipe());
        }
        if (random.nextInt(30) == 0) {
            long any = random.nextLong() >>> random.nextInt(64);
            same(when + "put " + any, x.put(any), model.put(any));
        }
        StringBuilder text = new StringBuilder(model.count(15) == 0 ? "" : ";");
        text.append(order());
        for (int more = random.nextInt(4); more > 0; more--) {
            text.append(';').append(order());
        }
        if (random.nextInt(12) == 0) {
            text.setCharAt(random.nextInt(text.length()), "txoarpb.;*0123456789~!"
                .charAt(random.nextInt(22)));
        }
        for (int from = 0; from < text.length(); from += 8) {
            long part = Calls.packed(text.substring(from, Math.min(from + 8, text.length())));
            same(when + "put " + part, x.put(part), model.put(part));
        }
    }

    private String order() {
        int a = random.nextInt(30) == 0 ? random.nextInt(10) : random.nextInt(3);
        int b = random.nextInt(30) == 0 ? random.nextInt(10) : random.nextInt(3);
        int f = random.nextInt(40) == 0 ? random.nextInt(100) : random.nextInt(frames);
        return switch (random.nextInt(9)) {
            case 0, 1, 2 -> "t" + a + "." + f;
            case 3 -> "x" + a + "." + f;
            case 4 -> "o" + a + "." + f;
            case 5 -> "a" + a + b + "." + f;
            case 6 -> "p" + f + "*" + (1 + b);
            case 7 -> "b" + random.nextInt(100);
            default -> "r";
        };
    }
}
