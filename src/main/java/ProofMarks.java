/**
 * A sheet of photographic proofs that three editors tick, cross and argue over, round by round.
 * What each call answers is said, promise by promise, in the project's document.
 */
public final class ProofMarks {
    public static final int NO_SUCH = -1, BAD_VALUE = -2, BAD_TEXT = -3, TOO_MANY = -4, NOT_POSSIBLE = -5, NONE = -6;
    public static final int NEED = 0, VETOES = 1, ARGUE = 2, DULL = 3;

    private static final int SLOTS = 2;

    private final Sheet sheet = new Sheet();
    private final History history = new History();
    private final Pad pad = new Pad();
    private final Sheet[] slots = new Sheet[SLOTS];
    private final boolean[] saved = new boolean[SLOTS];

    public ProofMarks() {
        for (int slot = 0; slot < SLOTS; slot++) {
            slots[slot] = new Sheet();
        }
    }

    // ---- changes

    public int set(int setting, int value) {
        history.note(sheet);
        return recorded(sheet.changeSetting(setting, value));
    }

    public int mark(int editor, int frame, int mark) {
        history.note(sheet);
        return recorded(sheet.putMark(editor, frame, mark));
    }

    public int argue(int editor, int other, int frame) {
        history.note(sheet);
        return recorded(sheet.argueAgainst(editor, other, frame));
    }

    public int round() {
        history.note(sheet);
        return recorded(sheet.endRound());
    }

    public int print(int frame, int size) {
        history.note(sheet);
        return recorded(sheet.printFrame(frame, size));
    }

    public int buy(int paper) {
        history.note(sheet);
        return recorded(sheet.addPaper(paper));
    }

    public int reopen(int frame) {
        history.note(sheet);
        return recorded(sheet.openAgain(frame));
    }

    // ---- what there is

    public int of(int frame, int what) {
        return sheet.aboutFrame(frame, what);
    }

    public int editor(int editor, int what) {
        return sheet.aboutEditor(editor, what);
    }

    public int chosen(int rank) {
        return sheet.chosenAt(rank);
    }

    public int count(int what) {
        if (what == 15) {
            return pad.length;
        }
        if (what == 16) {
            return history.kept;
        }
        return sheet.numberOf(what);
    }

    // ---- what if; nothing changes

    public int why(int frame) {
        return sheet.whyNotChosen(frame);
    }

    public int ifRound(int what) {
        return sheet.roundWouldBring(what);
    }

    public int decides(int frame) {
        return sheet.deciders(frame);
    }

    public int agree(int editor, int other) {
        return sheet.agreement(editor, other);
    }

    public int paperFor() {
        return sheet.paperForChosen();
    }

    // ---- texts

    public int put(long characters) {
        return pad.append(characters);
    }

    public int wipe() {
        return pad.empty();
    }

    public int fault() {
        return pad.faultAt();
    }

    public int carryOut() {
        if (pad.faultAt() != NONE) {
            return BAD_TEXT;
        }
        history.note(sheet);
        int carried = carryOrders();
        pad.empty();
        return recorded(carried);
    }

    // ---- undo, saving

    public int undo() {
        if (history.kept == 0) {
            return NOT_POSSIBLE;
        }
        history.bringBack(sheet);
        return history.kept;
    }

    public int save(int slot) {
        if (!isSlot(slot)) {
            return BAD_VALUE;
        }
        slots[slot].takeOver(sheet);
        saved[slot] = true;
        return sheet.rounds;
    }

    public int restore(int slot) {
        if (!isSlot(slot)) {
            return BAD_VALUE;
        }
        if (!saved[slot]) {
            return NOT_POSSIBLE;
        }
        history.note(sheet);
        sheet.takeOver(slots[slot]);
        return recorded(sheet.rounds);
    }

    /** Keeps the state that was noted before a change, unless the change answered with an error. */
    private int recorded(int answer) {
        if (answer >= 0) {
            history.keep();
        }
        return answer;
    }

    private int carryOrders() {
        pad.rewind();
        int carried = 0;
        while (carried < Pad.LONGEST && pad.nextOrder() && obey() >= 0) {
            carried++;
        }
        return carried;
    }

    /** Carries out the order that was read last. */
    private int obey() {
        switch (pad.order) {
            case 't':
                return sheet.putMark(pad.editor, pad.number, Sheet.TICK);
            case 'x':
                return sheet.putMark(pad.editor, pad.number, Sheet.CROSS);
            case 'o':
                return sheet.putMark(pad.editor, pad.number, Sheet.NO_MARK);
            case 'a':
                return sheet.argueAgainst(pad.editor, pad.other, pad.number);
            case 'p':
                return sheet.printFrame(pad.number, pad.size);
            case 'b':
                return sheet.addPaper(pad.number);
            default:
                return sheet.endRound();
        }
    }

    private static boolean isSlot(int slot) {
        return slot >= 0 && slot < SLOTS;
    }

    /** All that undo and restore bring back: frames, editors, paper, rounds and settings. */
    private static final class Sheet {
        static final int NO_MARK = 0, TICK = 1, CROSS = 2;

        private static final int OPEN = 0, CHOSEN = 1, OUT = 2, PRINTED = 3;
        private static final int ROWS = 5, COLUMNS = 6, FRAMES = ROWS * COLUMNS, EDITORS = 3;
        private static final int LARGEST_SIZE = 3, MOST_ROUNDS = 99;
        private static final int FIRST_POINTS = 5, ROUND_POINTS = 2, MOST_POINTS = 20;
        private static final int FIRST_PAPER = 300, MOST_PAPER = 999, MOST_BOUGHT = 99;
        private static final int[] LEAST_VALUES = {1, 0, 1, 1};
        private static final int[] MOST_VALUES = {3, 9, 9, 5};

        private final int[] settings = {2, 3, 2, 2};
        private final int[] how = new int[FRAMES];
        private final int[] ticks = new int[FRAMES];
        private final int[] crosses = new int[FRAMES];
        private final int[] dull = new int[FRAMES];
        private final int[] sizes = new int[FRAMES];
        private final int[] chosenIn = new int[FRAMES];
        private final int[] points = new int[EDITORS];
        private final int[] arguments = new int[EDITORS];
        private final int[] lifted = new int[EDITORS];
        private final int[] favourites = new int[EDITORS];
        private final int[] prints = new int[LARGEST_SIZE + 1];
        private int rounds = 0;
        private int paper = FIRST_PAPER;
        private int paperTaken = 0;

        Sheet() {
            for (int frame = 0; frame < FRAMES; frame++) {
                chosenIn[frame] = NONE;
            }
            for (int editor = 0; editor < EDITORS; editor++) {
                points[editor] = FIRST_POINTS;
            }
        }

        void takeOver(Sheet from) {
            System.arraycopy(from.settings, 0, settings, 0, settings.length);
            System.arraycopy(from.how, 0, how, 0, FRAMES);
            System.arraycopy(from.ticks, 0, ticks, 0, FRAMES);
            System.arraycopy(from.crosses, 0, crosses, 0, FRAMES);
            System.arraycopy(from.dull, 0, dull, 0, FRAMES);
            System.arraycopy(from.sizes, 0, sizes, 0, FRAMES);
            System.arraycopy(from.chosenIn, 0, chosenIn, 0, FRAMES);
            System.arraycopy(from.points, 0, points, 0, EDITORS);
            System.arraycopy(from.arguments, 0, arguments, 0, EDITORS);
            System.arraycopy(from.lifted, 0, lifted, 0, EDITORS);
            System.arraycopy(from.favourites, 0, favourites, 0, EDITORS);
            System.arraycopy(from.prints, 0, prints, 0, prints.length);
            rounds = from.rounds;
            paper = from.paper;
            paperTaken = from.paperTaken;
        }

        // ---- changes

        int changeSetting(int setting, int value) {
            if (setting < 0 || setting >= settings.length) {
                return BAD_VALUE;
            }
            if (value < LEAST_VALUES[setting] || value > MOST_VALUES[setting]) {
                return BAD_VALUE;
            }
            int before = settings[setting];
            settings[setting] = value;
            return before;
        }

        int putMark(int editor, int frame, int mark) {
            if (!isEditor(editor) || !isFrame(frame)) {
                return NO_SUCH;
            }
            if (mark < NO_MARK || mark > CROSS) {
                return BAD_VALUE;
            }
            if (how[frame] != OPEN) {
                return NOT_POSSIBLE;
            }
            int before = markOf(editor, frame);
            // A cross in place of a cross is none more, even where VETOES was lowered below what is there.
            if (mark == CROSS && before != CROSS && vetoesLeft(editor) == 0) {
                return TOO_MANY;
            }
            ticks[frame] = withEditor(ticks[frame], editor, mark == TICK);
            crosses[frame] = withEditor(crosses[frame], editor, mark == CROSS);
            return before;
        }

        int argueAgainst(int editor, int other, int frame) {
            if (!isEditor(editor) || !isEditor(other) || !isFrame(frame)) {
                return NO_SUCH;
            }
            if (editor == other) {
                return BAD_VALUE;
            }
            int price = settings[ARGUE];
            if (markOf(other, frame) != CROSS || points[editor] < price) {
                return NOT_POSSIBLE;
            }
            points[editor] -= price;
            arguments[editor]++;
            if (points[other] >= price) {
                points[other] -= price;
                return 0;
            }
            crosses[frame] = withEditor(crosses[frame], other, false);
            lifted[other]++;
            return 1;
        }

        int endRound() {
            if (rounds >= MOST_ROUNDS) {
                return NOT_POSSIBLE;
            }
            int chosenNow = 0;
            for (int frame = 0; frame < FRAMES; frame++) {
                if (how[frame] == OPEN && settle(frame) == CHOSEN) {
                    chosenNow++;
                }
            }
            for (int editor = 0; editor < EDITORS; editor++) {
                points[editor] = Math.min(points[editor] + ROUND_POINTS, MOST_POINTS);
            }
            rounds++;
            return chosenNow;
        }

        int printFrame(int frame, int size) {
            if (!isFrame(frame)) {
                return NO_SUCH;
            }
            if (size < 1 || size > LARGEST_SIZE) {
                return BAD_VALUE;
            }
            int price = paperOf(size);
            if (how[frame] != CHOSEN || size > sizes[frame] || price > paper) {
                return NOT_POSSIBLE;
            }
            how[frame] = PRINTED;
            sizes[frame] = size;
            prints[size]++;
            paper -= price;
            paperTaken += price;
            return paper;
        }

        int addPaper(int bought) {
            if (bought < 1 || bought > MOST_BOUGHT) {
                return BAD_VALUE;
            }
            paper = Math.min(paper + bought, MOST_PAPER);
            return paper;
        }

        int openAgain(int frame) {
            if (!isFrame(frame)) {
                return NO_SUCH;
            }
            int before = how[frame];
            if (before == OPEN || before == PRINTED) {
                return NOT_POSSIBLE;
            }
            // Its marks went with the round that closed it; only the round in which it was chosen stays.
            how[frame] = OPEN;
            dull[frame] = 0;
            sizes[frame] = 0;
            return before;
        }

        // ---- what there is

        int aboutFrame(int frame, int what) {
            if (!isFrame(frame)) {
                return NO_SUCH;
            }
            switch (what) {
                case 0:
                    return how[frame];
                case 1:
                    return ticks[frame];
                case 2:
                    return crosses[frame];
                case 3:
                    return dull[frame];
                case 4:
                    return sizes[frame];
                case 5:
                    return chosenIn[frame];
                default:
                    return BAD_VALUE;
            }
        }

        int aboutEditor(int editor, int what) {
            if (!isEditor(editor)) {
                return NO_SUCH;
            }
            switch (what) {
                case 0:
                    return points[editor];
                case 1:
                    return marksOf(editor, TICK);
                case 2:
                    return marksOf(editor, CROSS);
                case 3:
                    return vetoesLeft(editor);
                case 4:
                    return arguments[editor];
                case 5:
                    return lifted[editor];
                case 6:
                    return favourites[editor];
                default:
                    return BAD_VALUE;
            }
        }

        int chosenAt(int rank) {
            if (rank < 0) {
                return NO_SUCH;
            }
            int before = 0;
            for (int round = 0; round < rounds; round++) {
                for (int frame = 0; frame < FRAMES; frame++) {
                    if (isPicked(frame) && chosenIn[frame] == round) {
                        if (before == rank) {
                            return frame;
                        }
                        before++;
                    }
                }
            }
            return NO_SUCH;
        }

        int numberOf(int what) {
            switch (what) {
                case 0:
                    return rounds;
                case 1:
                    return framesThatAre(OPEN);
                case 2:
                    return framesThatAre(CHOSEN);
                case 3:
                    return framesThatAre(OUT);
                case 4:
                    return framesThatAre(PRINTED);
                case 5:
                    return paper;
                case 6:
                    return paperTaken;
                case 7:
                case 8:
                case 9:
                    return prints[what - 6];
                case 10:
                    return longestRow();
                case 11:
                case 12:
                case 13:
                case 14:
                    return settings[what - 11];
                default:
                    return BAD_VALUE;
            }
        }

        // ---- what if

        int whyNotChosen(int frame) {
            if (!isFrame(frame)) {
                return NO_SUCH;
            }
            if (how[frame] != OPEN) {
                return 1;
            }
            if (crosses[frame] != 0) {
                return 2;
            }
            return isWanted(ticks[frame], crosses[frame]) ? 0 : 3;
        }

        int roundWouldBring(int what) {
            switch (what) {
                case 0:
                    return framesThatBecome(CHOSEN);
                case 1:
                    return framesThatBecome(OUT);
                case 2:
                    return framesThatBecome(OPEN);
                default:
                    return BAD_VALUE;
            }
        }

        int deciders(int frame) {
            if (!isFrame(frame)) {
                return NO_SUCH;
            }
            int deciding = 0;
            for (int editor = 0; editor < EDITORS; editor++) {
                deciding = withEditor(deciding, editor, how[frame] == OPEN && markDecides(editor, frame));
            }
            return deciding;
        }

        int agreement(int editor, int other) {
            if (!isEditor(editor) || !isEditor(other)) {
                return NO_SUCH;
            }
            int both = 0;
            int same = 0;
            for (int frame = 0; frame < FRAMES; frame++) {
                int mark = markOf(editor, frame);
                int otherMark = markOf(other, frame);
                if (mark != NO_MARK && otherMark != NO_MARK) {
                    both++;
                    same += mark == otherMark ? 1 : 0;
                }
            }
            return both == 0 ? 100 : 100 * same / both;
        }

        int paperForChosen() {
            int needed = 0;
            for (int frame = 0; frame < FRAMES; frame++) {
                if (how[frame] == CHOSEN) {
                    needed += paperOf(sizes[frame]);
                }
            }
            return needed;
        }

        // ---- a frame at the end of a round

        /** Ends the round for an open frame, and tells how the frame is then. */
        private int settle(int frame) {
            int after = afterRound(frame);
            if (after == CHOSEN) {
                noteChoice(frame);
            }
            dull[frame] = dullAfterRound(frame);
            how[frame] = after;
            ticks[frame] = 0;
            crosses[frame] = 0;
            return after;
        }

        private void noteChoice(int frame) {
            sizes[frame] = Integer.bitCount(ticks[frame]);
            chosenIn[frame] = rounds;
            for (int editor = 0; editor < EDITORS; editor++) {
                if (markOf(editor, frame) == TICK) {
                    favourites[editor]++;
                }
            }
        }

        /** How an open frame would be after a round: open, chosen or out. */
        private int afterRound(int frame) {
            int crossed = Integer.bitCount(crosses[frame]);
            if (crossed >= 2) {
                return OUT;
            }
            if (crossed == 1) {
                return OPEN;
            }
            if (isWanted(ticks[frame], crosses[frame])) {
                return CHOSEN;
            }
            return dullAfterRound(frame) >= settings[DULL] ? OUT : OPEN;
        }

        private int dullAfterRound(int frame) {
            boolean untouched = ticks[frame] == 0 && crosses[frame] == 0;
            return untouched ? dull[frame] + 1 : 0;
        }

        private boolean isWanted(int ticked, int crossed) {
            return crossed == 0 && Integer.bitCount(ticked) >= settings[NEED];
        }

        private boolean markDecides(int editor, int frame) {
            boolean wanted = isWanted(ticks[frame], crosses[frame]);
            for (int mark = NO_MARK; mark <= CROSS; mark++) {
                int ticked = withEditor(ticks[frame], editor, mark == TICK);
                int crossed = withEditor(crosses[frame], editor, mark == CROSS);
                if (isWanted(ticked, crossed) != wanted) {
                    return true;
                }
            }
            return false;
        }

        // ---- counting

        private int framesThatAre(int state) {
            int many = 0;
            for (int frame = 0; frame < FRAMES; frame++) {
                many += how[frame] == state ? 1 : 0;
            }
            return many;
        }

        private int framesThatBecome(int state) {
            int many = 0;
            for (int frame = 0; frame < FRAMES; frame++) {
                many += how[frame] == OPEN && afterRound(frame) == state ? 1 : 0;
            }
            return many;
        }

        private int longestRow() {
            int longest = 0;
            int length = 0;
            for (int frame = 0; frame < FRAMES; frame++) {
                if (frame % COLUMNS == 0) {
                    length = 0;
                }
                length = isPicked(frame) ? length + 1 : 0;
                longest = Math.max(longest, length);
            }
            return longest;
        }

        private int marksOf(int editor, int mark) {
            int many = 0;
            for (int frame = 0; frame < FRAMES; frame++) {
                many += markOf(editor, frame) == mark ? 1 : 0;
            }
            return many;
        }

        private int vetoesLeft(int editor) {
            return Math.max(settings[VETOES] - marksOf(editor, CROSS), 0);
        }

        // ---- marks, sets and ranges

        /** The mark of an editor on a frame; there are none on frames that are not open. */
        private int markOf(int editor, int frame) {
            int bit = 1 << editor;
            if ((ticks[frame] & bit) != 0) {
                return TICK;
            }
            return (crosses[frame] & bit) != 0 ? CROSS : NO_MARK;
        }

        private boolean isPicked(int frame) {
            return how[frame] == CHOSEN || how[frame] == PRINTED;
        }

        private static int withEditor(int editors, int editor, boolean in) {
            int bit = 1 << editor;
            return in ? editors | bit : editors & ~bit;
        }

        private static int paperOf(int size) {
            return 10 * size * size;
        }

        private static boolean isFrame(int frame) {
            return frame >= 0 && frame < FRAMES;
        }

        private static boolean isEditor(int editor) {
            return editor >= 0 && editor < EDITORS;
        }
    }

    /** The states before the latest changes, the oldest one first. */
    private static final class History {
        private static final int MOST_KEPT = 6;

        // One more than are kept: a state is noted before it is known whether the change is an error.
        private final Sheet[] states = new Sheet[MOST_KEPT + 1];
        private int kept = 0;

        History() {
            for (int i = 0; i <= MOST_KEPT; i++) {
                states[i] = new Sheet();
            }
        }

        /** Notes the state before a change, without keeping it yet. */
        void note(Sheet sheet) {
            states[kept].takeOver(sheet);
        }

        /** Keeps the state that was noted last, and drops the oldest one if there are too many. */
        void keep() {
            if (kept < MOST_KEPT) {
                kept++;
                return;
            }
            Sheet oldest = states[0];
            for (int i = 0; i < MOST_KEPT; i++) {
                states[i] = states[i + 1];
            }
            states[MOST_KEPT] = oldest;
        }

        /** Makes the sheet what it was before the latest change. */
        void bringBack(Sheet sheet) {
            if (kept > 0) {
                kept--;
                sheet.takeOver(states[kept]);
            }
        }
    }

    /** A text of orders, read from left to right; the order that was read last lies open in its fields. */
    private static final class Pad {
        static final int LONGEST = 80;

        private static final int FIRST_CODE = 33, LAST_CODE = 126;
        private static final int BYTES = 8, BYTE_BITS = 8, BYTE_MASK = 255;
        private static final char END = 0;

        private final char[] signs = new char[LONGEST];
        private int length = 0;
        private int at = 0;
        private char order = END;
        private int editor = 0;
        private int other = 0;
        private int number = 0;
        private int size = 0;

        // ---- writing

        int append(long characters) {
            int many = charactersIn(characters);
            if (many == 0) {
                return BAD_VALUE;
            }
            if (length + many > LONGEST) {
                return TOO_MANY;
            }
            for (int i = many - 1; i >= 0; i--) {
                signs[length] = (char) ((characters >>> (i * BYTE_BITS)) & BYTE_MASK);
                length++;
            }
            return length;
        }

        int empty() {
            int before = length;
            length = 0;
            return before;
        }

        /** How many characters a number holds; 0 if one of them, or a gap between them, is not allowed. */
        private static int charactersIn(long characters) {
            long rest = characters;
            int many = 0;
            while (many < BYTES && rest != 0) {
                long code = rest & BYTE_MASK;
                if (code < FIRST_CODE || code > LAST_CODE) {
                    return 0;
                }
                rest >>>= BYTE_BITS;
                many++;
            }
            return many;
        }

        // ---- reading

        /** Where reading the whole text gets stuck, or NONE. */
        int faultAt() {
            rewind();
            boolean reads = nextOrder();
            for (int orders = 1; orders < LONGEST && reads && at < length; orders++) {
                reads = nextOrder();
            }
            return reads ? NONE : at;
        }

        void rewind() {
            at = 0;
        }

        /** Reads one order more, with the sign before it; if that fails, it stands where it got stuck. */
        boolean nextOrder() {
            return (at == 0 || take(';')) && takeOrder();
        }

        private boolean takeOrder() {
            order = here();
            if (take('t') || take('x') || take('o')) {
                return takeEditor() && take('.') && takeNumber();
            }
            if (take('a')) {
                return takeEditor() && takeOther() && take('.') && takeNumber();
            }
            if (take('p')) {
                return takeNumber() && take('*') && takeSize();
            }
            if (take('b')) {
                return takeNumber();
            }
            return take('r');
        }

        private boolean takeEditor() {
            editor = digitHere();
            return pass(editor);
        }

        private boolean takeOther() {
            other = digitHere();
            return pass(other);
        }

        private boolean takeSize() {
            size = digitHere();
            return pass(size);
        }

        private boolean takeNumber() {
            number = digitHere();
            if (!pass(number)) {
                return false;
            }
            // Nothing may follow a leading zero, and a third digit would make the number too large.
            int second = digitHere();
            if (number != 0 && pass(second)) {
                number = 10 * number + second;
            }
            return true;
        }

        private boolean take(char sign) {
            if (here() != sign) {
                return false;
            }
            at++;
            return true;
        }

        /** Goes on behind a digit; stays if there was none. */
        private boolean pass(int digit) {
            if (digit < 0) {
                return false;
            }
            at++;
            return true;
        }

        private int digitHere() {
            char sign = here();
            return sign >= '0' && sign <= '9' ? sign - '0' : -1;
        }

        private char here() {
            return at >= 0 && at < length ? signs[at] : END;
        }
    }
}
