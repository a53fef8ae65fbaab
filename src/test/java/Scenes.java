import java.util.function.Consumer;

/** Sheets on which tests begin. */
final class Scenes {
    /**
     * How the frames of busy() are. The tick and the cross on CROSSED are of the editors 0 and 1; TICKED has ticks
     * of 0 and 2, so that a round chooses it.
     */
    static final int CHOSEN_IN_3 = 0, CHOSEN_IN_2 = 1, PRINTED = 2, CROSSED = 3, TICKED = 4, BARE = 5, OUT = 6;

    private Scenes() {
    }

    /**
     * A sheet with frames of every kind, a full history of different states, two different slots, and a pad
     * that can be carried out: whatever a refused call changed would be seen.
     */
    static void busy(ProofMarks x) {
        Calls.tick(x, CHOSEN_IN_3, 3);
        Calls.tick(x, CHOSEN_IN_2, 2);
        Calls.tick(x, PRINTED, 3);
        x.round();
        x.save(0);
        for (int frame = CROSSED; frame <= BARE; frame++) {
            x.mark(0, frame, 1);
        }
        x.round();
        x.print(PRINTED, 3);
        x.mark(1, CROSSED, 2);
        x.save(1);
        x.argue(0, 1, CROSSED);
        x.mark(0, CROSSED, 1);
        x.mark(0, TICKED, 1);
        x.mark(2, TICKED, 1);
        x.set(ProofMarks.DULL, 4);
        x.buy(7);
        Calls.write(x, "r;b5;t1.5");
    }

    /** A sheet whose frames are all chosen, with as many ticks as are told. */
    static Consumer<ProofMarks> allChosen(int ticks) {
        return x -> {
            x.set(ProofMarks.NEED, ticks);
            for (int frame = 0; frame < Calls.FRAMES; frame++) {
                Calls.tick(x, frame, ticks);
            }
            x.round();
        };
    }

    /** A sheet with as much paper as is told, 0 to 99, and a frame 9 that is chosen with the size 3. */
    static Consumer<ProofMarks> paper(int left) {
        return x -> {
            for (int frame = 0; frame <= 6; frame++) {
                Calls.tick(x, frame, 3);
            }
            Calls.tick(x, 9, 3);
            x.round();
            for (int frame = 0; frame <= 2; frame++) {
                x.print(frame, 3);
            }
            for (int frame = 3; frame <= 5; frame++) {
                x.print(frame, 1);
            }
            if (left > 0) {
                x.buy(left);
            }
        };
    }

    /** A sheet with as much paper as is told, 300 to 999. */
    static Consumer<ProofMarks> muchPaper(int paper) {
        return x -> {
            int missing = paper - 300;
            while (missing > 0) {
                int bought = Math.min(missing, 99);
                x.buy(bought);
                missing -= bought;
            }
        };
    }

    static Consumer<ProofMarks> rounds(int many) {
        return x -> Calls.rounds(x, many);
    }

    static Consumer<ProofMarks> setting(int setting, int value) {
        return x -> x.set(setting, value);
    }

    static Consumer<ProofMarks> text(String text) {
        return x -> Calls.write(x, text);
    }

    /**
     * A sheet on which the editors 0 and 1 have as many points as are told, 0 to 20 each, and ARGUE is as told.
     * The frames 0 to 5 are open and without marks, the others may be out.
     */
    static Consumer<ProofMarks> points(int ofFirst, int ofSecond, int argue) {
        return x -> {
            while (x.editor(0, 0) < Math.max(ofFirst, ofSecond)) {
                for (int frame = 0; frame <= 5; frame++) {
                    x.mark(0, frame, 1);
                }
                x.round();
            }
            x.set(ProofMarks.ARGUE, 1);
            payDown(x, 0, ofFirst);
            payDown(x, 1, ofSecond);
            x.set(ProofMarks.ARGUE, argue);
        };
    }

    /** Lets an editor pay points one by one by arguing against the third one, who loses the cross at times. */
    private static void payDown(ProofMarks x, int editor, int points) {
        for (int left = x.editor(editor, 0); left > points; left--) {
            x.mark(2, 5, 2);
            x.argue(editor, 2, 5);
        }
        x.mark(2, 5, 0);
    }
}
