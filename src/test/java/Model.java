import java.util.ArrayDeque;
import java.util.ArrayList;
import java.util.Arrays;
import java.util.Deque;
import java.util.List;
import java.util.regex.Matcher;
import java.util.regex.Pattern;

/**
 * The document once more, written in another way than ProofMarks (marks by editor instead of sets,
 * states as copies, texts by regular expressions), so that one slip does not stand in both.
 */
final class Model {
    private static final int NO_SUCH = -1, BAD_VALUE = -2, BAD_TEXT = -3, TOO_MANY = -4, NOT_POSSIBLE = -5, NONE = -6;
    private static final String NUMBER = "(?:0|[1-9][0-9]?)";
    private static final String ORDER =
        "(?:[txo][0-9]\\." + NUMBER + "|a[0-9][0-9]\\." + NUMBER + "|r|p" + NUMBER + "\\*[0-9]|b" + NUMBER + ")";
    private static final Pattern TEXT = Pattern.compile(ORDER + "(?:;" + ORDER + ")*");

    private static final class Frame {
        int how;
        int dull;
        int size;
        int round = NONE;
        int[] marks = new int[3];

        Frame copy() {
            Frame other = new Frame();
            other.how = how;
            other.dull = dull;
            other.size = size;
            other.round = round;
            other.marks = marks.clone();
            return other;
        }

        int many(int mark) {
            return (int) Arrays.stream(marks).filter(m -> m == mark).count();
        }
    }

    private static final class State {
        List<Frame> frames = new ArrayList<>();
        List<Integer> order = new ArrayList<>();
        int[] settings = {2, 3, 2, 2};
        int[][] editors = {{5, 0, 0, 0}, {5, 0, 0, 0}, {5, 0, 0, 0}};
        int[] prints = new int[4];
        int paper = 300;
        int rounds;

        State copy() {
            State other = new State();
            frames.forEach(frame -> other.frames.add(frame.copy()));
            other.order.addAll(order);
            other.settings = settings.clone();
            other.editors = Arrays.stream(editors).map(int[]::clone).toArray(int[][]::new);
            other.prints = prints.clone();
            other.paper = paper;
            other.rounds = rounds;
            return other;
        }
    }

    private State now = new State();
    private final Deque<State> history = new ArrayDeque<>();
    private final State[] slots = new State[2];
    private String pad = "";

    Model() {
        for (int i = 0; i < 30; i++) {
            now.frames.add(new Frame());
        }
    }

    private static boolean in(int value, int least, int most) {
        return least <= value && value <= most;
    }

    private void record() {
        history.addLast(now.copy());
        if (history.size() > 6) {
            history.removeFirst();
        }
    }

    // ---- changes; each one with a "recorded" flag, as an order of a text records nothing

    int set(int setting, int value) {
        int[][] ranges = {{1, 3}, {0, 9}, {1, 9}, {1, 5}};
        if (!in(setting, 0, 3) || !in(value, ranges[setting][0], ranges[setting][1])) {
            return BAD_VALUE;
        }
        record();
        int old = now.settings[setting];
        now.settings[setting] = value;
        return old;
    }

    int mark(int editor, int frame, int mark, boolean recorded) {
        if (!in(editor, 0, 2) || !in(frame, 0, 29)) {
            return NO_SUCH;
        }
        if (!in(mark, 0, 2)) {
            return BAD_VALUE;
        }
        Frame it = now.frames.get(frame);
        if (it.how != 0) {
            return NOT_POSSIBLE;
        }
        int old = it.marks[editor];
        if (mark == 2 && old != 2 && marksOf(editor, 2) + 1 > now.settings[1]) {
            return TOO_MANY;
        }
        if (recorded) {
            record();
        }
        now.frames.get(frame).marks[editor] = mark;
        return old;
    }

    private int marksOf(int editor, int mark) {
        return (int) now.frames.stream().filter(f -> f.how == 0 && f.marks[editor] == mark).count();
    }

    int argue(int editor, int other, int frame, boolean recorded) {
        if (!in(editor, 0, 2) || !in(other, 0, 2) || !in(frame, 0, 29)) {
            return NO_SUCH;
        }
        if (editor == other) {
            return BAD_VALUE;
        }
        int cost = now.settings[2];
        if (now.frames.get(frame).marks[other] != 2 || now.editors[editor][0] < cost) {
            return NOT_POSSIBLE;
        }
        if (recorded) {
            record();
        }
        now.editors[editor][0] -= cost;
        now.editors[editor][1]++;
        if (now.editors[other][0] >= cost) {
            now.editors[other][0] -= cost;
            return 0;
        }
        now.frames.get(frame).marks[other] = 0;
        now.editors[other][2]++;
        return 1;
    }

    int round(boolean recorded) {
        if (now.rounds == 99) {
            return NOT_POSSIBLE;
        }
        if (recorded) {
            record();
        }
        return endRound(now);
    }

    private static int endRound(State s) {
        int chosen = 0;
        for (int i = 0; i < 30; i++) {
            Frame frame = s.frames.get(i);
            if (frame.how == 0) {
                frame.dull = frame.many(0) == 3 ? frame.dull + 1 : 0;
                if (frame.many(2) >= 2) {
                    frame.how = 2;
                } else if (frame.many(2) == 0 && frame.many(1) >= s.settings[0]) {
                    frame.how = 1;
                    frame.size = frame.many(1);
                    frame.round = s.rounds;
                    s.order.add(i);
                    for (int editor = 0; editor < 3; editor++) {
                        s.editors[editor][3] += frame.marks[editor] == 1 ? 1 : 0;
                    }
                    chosen++;
                } else if (frame.many(2) == 0 && frame.dull >= s.settings[3]) {
                    frame.how = 2;
                }
            }
            frame.marks = new int[3];
        }
        for (int[] editor : s.editors) {
            editor[0] = Math.min(20, editor[0] + 2);
        }
        s.rounds++;
        return chosen;
    }

    int print(int frame, int size, boolean recorded) {
        if (!in(frame, 0, 29)) {
            return NO_SUCH;
        }
        if (!in(size, 1, 3)) {
            return BAD_VALUE;
        }
        Frame it = now.frames.get(frame);
        if (it.how != 1 || size > it.size || now.paper < 10 * size * size) {
            return NOT_POSSIBLE;
        }
        if (recorded) {
            record();
        }
        now.frames.get(frame).how = 3;
        now.frames.get(frame).size = size;
        now.prints[size]++;
        now.paper -= 10 * size * size;
        return now.paper;
    }

    int buy(int paper, boolean recorded) {
        if (!in(paper, 1, 99)) {
            return BAD_VALUE;
        }
        if (recorded) {
            record();
        }
        now.paper = Math.min(999, now.paper + paper);
        return now.paper;
    }

    int reopen(int frame) {
        if (!in(frame, 0, 29)) {
            return NO_SUCH;
        }
        int how = now.frames.get(frame).how;
        if (how == 0 || how == 3) {
            return NOT_POSSIBLE;
        }
        record();
        Frame fresh = new Frame();
        fresh.round = now.frames.get(frame).round;
        now.frames.set(frame, fresh);
        now.order.remove((Integer) frame);
        return how;
    }

    // ---- what there is

    int of(int frame, int what) {
        if (!in(frame, 0, 29)) {
            return NO_SUCH;
        }
        if (!in(what, 0, 5)) {
            return BAD_VALUE;
        }
        Frame it = now.frames.get(frame);
        return new int[] {it.how, setOf(it, 1), setOf(it, 2), it.dull, it.size, it.round}[what];
    }

    private static int setOf(Frame frame, int mark) {
        int set = 0;
        for (int editor = 0; editor < 3; editor++) {
            set += frame.marks[editor] == mark ? 1 << editor : 0;
        }
        return set;
    }

    int editor(int editor, int what) {
        if (!in(editor, 0, 2)) {
            return NO_SUCH;
        }
        if (!in(what, 0, 6)) {
            return BAD_VALUE;
        }
        int[] it = now.editors[editor];
        int crosses = marksOf(editor, 2);
        return new int[] {it[0], marksOf(editor, 1), crosses, Math.max(0, now.settings[1] - crosses), it[1], it[2], it[3]}[what];
    }

    int chosen(int rank) {
        return in(rank, 0, now.order.size() - 1) ? now.order.get(rank) : NO_SUCH;
    }

    int count(int what) {
        if (!in(what, 0, 16)) {
            return BAD_VALUE;
        }
        int[] p = now.prints;
        int[] s = now.settings;
        return new int[] {now.rounds, thatAre(now, 0), thatAre(now, 1), thatAre(now, 2), thatAre(now, 3), now.paper,
            10 * p[1] + 40 * p[2] + 90 * p[3], p[1], p[2], p[3], longestRow(), s[0], s[1], s[2], s[3], pad.length(),
            history.size()}[what];
    }

    private static int thatAre(State s, int how) {
        return (int) s.frames.stream().filter(f -> f.how == how).count();
    }

    private int longestRow() {
        int longest = 0;
        for (int from = 0; from < 30; from++) {
            int to = from;
            while (to < 30 && to / 6 == from / 6 && now.frames.get(to).how % 2 == 1) {
                to++;
            }
            longest = Math.max(longest, to - from);
        }
        return longest;
    }

    // ---- what if

    int why(int frame) {
        if (!in(frame, 0, 29)) {
            return NO_SUCH;
        }
        Frame it = now.frames.get(frame);
        return it.how != 0 ? 1 : it.many(2) > 0 ? 2 : it.many(1) < now.settings[0] ? 3 : 0;
    }

    int ifRound(int what) {
        if (!in(what, 0, 2)) {
            return BAD_VALUE;
        }
        State next = now.copy();
        int chosen = endRound(next);
        return new int[] {chosen, thatAre(next, 2) - thatAre(now, 2), thatAre(next, 0)}[what];
    }

    int decides(int frame) {
        if (!in(frame, 0, 29)) {
            return NO_SUCH;
        }
        int set = 0;
        int[] marks = now.frames.get(frame).marks;
        boolean before = why(frame) == 0;
        for (int editor = 0; editor < 3; editor++) {
            int old = marks[editor];
            for (int mark = 0; mark <= 2; mark++) {
                marks[editor] = mark;
                set |= (why(frame) == 0) != before ? 1 << editor : 0;
            }
            marks[editor] = old;
        }
        return set;
    }

    int agree(int editor, int other) {
        if (!in(editor, 0, 2) || !in(other, 0, 2)) {
            return NO_SUCH;
        }
        long both = now.frames.stream().filter(f -> f.marks[editor] * f.marks[other] != 0).count();
        long same = now.frames.stream().filter(f -> f.marks[editor] != 0 && f.marks[editor] == f.marks[other]).count();
        return both == 0 ? 100 : (int) (same * 100 / both);
    }

    int paperFor() {
        return now.frames.stream().filter(f -> f.how == 1).mapToInt(f -> 10 * f.size * f.size).sum();
    }

    // ---- texts

    int put(long characters) {
        StringBuilder text = new StringBuilder();
        boolean ended = false;
        for (int i = 0; i < 8; i++) {
            int code = (int) (characters >>> (8 * i) & 255);
            if (code == 0) {
                ended = true;
            } else if (ended || code < 33 || code > 126) {
                return BAD_VALUE;
            } else {
                text.insert(0, (char) code);
            }
        }
        if (text.isEmpty()) {
            return BAD_VALUE;
        }
        if (pad.length() + text.length() > 80) {
            return TOO_MANY;
        }
        pad += text;
        return pad.length();
    }

    int wipe() {
        int length = pad.length();
        pad = "";
        return length;
    }

    /** The longest part of the text from its start that a text can begin with. */
    int fault() {
        if (TEXT.matcher(pad).matches()) {
            return NONE;
        }
        int good = 0;
        for (int length = 1; length <= pad.length(); length++) {
            Matcher matcher = TEXT.matcher(pad.substring(0, length));
            if (!matcher.matches() && !matcher.hitEnd()) {
                break;
            }
            good = length;
        }
        return good;
    }

    int carryOut() {
        if (fault() != NONE) {
            return BAD_TEXT;
        }
        record();
        int carried = 0;
        for (String order : pad.split(";")) {
            if (obey(order) < 0) {
                break;
            }
            carried++;
        }
        pad = "";
        return carried;
    }

    private int obey(String order) {
        String rest = order.substring(1);
        String[] parts = rest.split("[.*]");
        switch (order.charAt(0)) {
            case 'r':
                return round(false);
            case 'b':
                return buy(Integer.parseInt(rest), false);
            case 'p':
                return print(Integer.parseInt(parts[0]), Integer.parseInt(parts[1]), false);
            case 'a':
                int both = Integer.parseInt(parts[0]);
                return argue(both / 10, both % 10, Integer.parseInt(parts[1]), false);
            default:
                return mark(Integer.parseInt(parts[0]), Integer.parseInt(parts[1]), "otx".indexOf(order.charAt(0)), false);
        }
    }

    // ---- undo, saving

    int undo() {
        if (history.isEmpty()) {
            return NOT_POSSIBLE;
        }
        now = history.removeLast();
        return history.size();
    }

    int save(int slot) {
        if (!in(slot, 0, 1)) {
            return BAD_VALUE;
        }
        slots[slot] = now.copy();
        return now.rounds;
    }

    int restore(int slot) {
        if (!in(slot, 0, 1)) {
            return BAD_VALUE;
        }
        if (slots[slot] == null) {
            return NOT_POSSIBLE;
        }
        record();
        now = slots[slot].copy();
        return now.rounds;
    }
}
