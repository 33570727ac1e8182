import java.util.ArrayDeque;
import java.util.Arrays;
import java.util.Deque;

/** The document once more, slot by slot and without any skill, for RandomRunsTest and ShortTextsTest. */
final class SlotModel {
    private static final int FREE = 0;
    private static final int USED = 1;
    private static final int LAZY = 2;
    private static final int KEPT = 3;

    private static final class State {
        int[] kind = new int[320];
        int[] owner = new int[320];
        boolean[] bit = new boolean[10];
        int[] start = new int[8];
        int[] size = new int[8];
        int looks;

        State() {
            Arrays.fill(owner, -9);
        }

        State copy() {
            State copy = new State();
            copy.kind = kind.clone();
            copy.owner = owner.clone();
            copy.bit = bit.clone();
            copy.start = start.clone();
            copy.size = size.clone();
            copy.looks = looks;
            return copy;
        }
    }

    private State s = new State();
    private final Deque<State> history = new ArrayDeque<>();
    private String text = "";

    private int record(State before, int answer) {
        if (answer < 0) {
            s = before;
        } else {
            history.addLast(before);
            if (history.size() > 5) {
                history.removeFirst();
            }
        }
        return answer;
    }

    private boolean full(int word) {
        for (int i = word * 32; i < word * 32 + 32; i++) {
            if (s.kind[i] == FREE) {
                return false;
            }
        }
        return true;
    }

    private void set(int slot, int kind) {
        s.kind[slot] = kind;
        s.bit[slot / 32] = full(slot / 32);
    }

    private int number(int kind, int from, int to) {
        int n = 0;
        for (int i = from; i <= to; i++) {
            n += s.kind[i] == kind ? 1 : 0;
        }
        return n;
    }

    private int pass() {
        for (int w = 0; w < 10; w++) {
            if (s.bit[w]) {
                continue;
            }
            s.looks++;
            for (int i = w * 32; i < w * 32 + 32; i++) {
                if (s.kind[i] == FREE) {
                    set(i, USED);
                    return i;
                }
            }
            s.bit[w] = true;
        }
        return -1;
    }

    private int doTake() {
        int slot = pass();
        if (slot < 0 && number(LAZY, 0, 319) > 0) {
            for (int i = 0; i < 320; i++) {
                if (s.kind[i] == LAZY) {
                    set(i, FREE);
                }
            }
            slot = pass();
        }
        return slot < 0 ? -3 : slot;
    }

    int take() {
        State before = s.copy();
        return record(before, doTake());
    }

    private int findRun(int many) {
        for (int i = 0; i + many <= 320; i++) {
            if (number(FREE, i, i + many - 1) == many) {
                return i;
            }
        }
        return -9;
    }

    int takeRun(int many) {
        if (many < 1 || many > 64) {
            return -1;
        }
        int first = findRun(many);
        if (first < 0) {
            return -3;
        }
        State before = s.copy();
        s.looks += (first + many - 1) / 32 + 1;
        for (int i = first; i < first + many; i++) {
            set(i, USED);
        }
        return record(before, first);
    }

    private int doGiveBack(int from, int to) {
        if (from < 0 || from > 319 || to < from || to > 319) {
            return -1;
        }
        int n = 0;
        for (int i = from; i <= to; i++) {
            if (s.kind[i] == USED) {
                set(i, s.owner[i] < 0 ? LAZY : KEPT);
                n++;
            }
        }
        return n == 0 ? -2 : n;
    }

    int giveBack(int from, int to) {
        State before = s.copy();
        return record(before, doGiveBack(from, to));
    }

    private int doClear(int words) {
        if (words < 1 || words > 10) {
            return -1;
        }
        int n = 0;
        int left = words;
        for (int w = 0; w < 10; w++) {
            int lazy = number(LAZY, w * 32, w * 32 + 31);
            if (lazy == 0 || left == 0) {
                continue;
            }
            left--;
            n += lazy;
            for (int i = w * 32; i < w * 32 + 32; i++) {
                if (s.kind[i] == LAZY) {
                    set(i, FREE);
                }
            }
        }
        return n;
    }

    int clear(int words) {
        State before = s.copy();
        return record(before, doClear(words));
    }

    private boolean badSize(int size) {
        return size != 4 && size != 8 && size != 16 && size != 32;
    }

    private int findPlace(int size) {
        for (int i = 0; i + size <= 320; i += size) {
            if (number(FREE, i, i + size - 1) == size) {
                return i;
            }
        }
        return -9;
    }

    private int doReserve(int size) {
        if (badSize(size)) {
            return -1;
        }
        int place = findPlace(size);
        for (int b = 0; b < 8 && place >= 0; b++) {
            if (s.size[b] == 0) {
                s.size[b] = size;
                s.start[b] = place;
                for (int i = place; i < place + size; i++) {
                    s.owner[i] = b;
                    set(i, KEPT);
                }
                return b;
            }
        }
        return -3;
    }

    int reserve(int size) {
        State before = s.copy();
        return record(before, doReserve(size));
    }

    private boolean noBlock(int block) {
        return block < 0 || block > 7 || s.size[block] == 0;
    }

    private int doTakeIn(int block) {
        if (noBlock(block)) {
            return -1;
        }
        for (int i = 0; i < 320; i++) {
            if (s.owner[i] == block && s.kind[i] == KEPT) {
                set(i, USED);
                return i;
            }
        }
        return -3;
    }

    int takeIn(int block) {
        State before = s.copy();
        return record(before, doTakeIn(block));
    }

    int giveUp(int block) {
        if (noBlock(block)) {
            return -1;
        }
        State before = s.copy();
        int n = 0;
        for (int i = 0; i < 320; i++) {
            if (s.owner[i] == block) {
                s.owner[i] = -9;
                if (s.kind[i] == KEPT) {
                    set(i, FREE);
                    n++;
                }
            }
        }
        s.size[block] = 0;
        return record(before, n);
    }

    private int doDamage(int word) {
        if (word < 0 || word > 9) {
            return -1;
        }
        s.bit[word] = !s.bit[word];
        return s.bit[word] ? 1 : 0;
    }

    int damage(int word) {
        State before = s.copy();
        return record(before, doDamage(word));
    }

    private int doRepair() {
        int n = 0;
        for (int w = 0; w < 10; w++) {
            if (s.bit[w] != full(w)) {
                n++;
                s.bit[w] = full(w);
            }
        }
        return n;
    }

    int repair() {
        State before = s.copy();
        return record(before, doRepair());
    }

    int undo() {
        if (history.isEmpty()) {
            return -2;
        }
        s = history.removeLast();
        return history.size();
    }

    int append(int character) {
        if (character < 1 || character > 255) {
            return -1;
        }
        if (text.length() == 80) {
            return -3;
        }
        text += (char) character;
        return text.length();
    }

    int clearText() {
        int length = text.length();
        text = "";
        return length;
    }

    private char at(int i) {
        return i < text.length() ? text.charAt(i) : 0;
    }

    /** Where the number that begins at i ends; i itself if none begins there. */
    private int numberEnd(int i) {
        if (at(i) == '0') {
            return i + 1;
        }
        int end = i;
        while (end < i + 3 && at(end) >= '0' && at(end) <= '9') {
            end++;
        }
        return end;
    }

    private int command(char letter, int first, int second) {
        switch (letter) {
            case 't': {
                if (first > 320 || first == 0) {
                    return -1;
                }
                for (int i = 0; i < Math.max(first, 1); i++) {
                    if (doTake() < 0) {
                        return -3;
                    }
                }
                return 0;
            }
            case 'f':
                return doGiveBack(first, second < 0 ? first : second);
            case 'c':
                return doClear(first);
            case 'r':
                return doReserve(first);
            case 'b':
                return doTakeIn(first);
            case 'd':
                return doDamage(first);
            default:
                return doRepair();
        }
    }

    private int doRun() {
        int i = 0;
        int commands = 0;
        while (i < text.length()) {
            int begin = i;
            char letter = at(i);
            if ("tfcrbda".indexOf(letter) < 0) {
                return -1000 - i;
            }
            i++;
            int first = -1;
            int second = -1;
            if (letter != 'a') {
                int end = numberEnd(i);
                if (end == i && letter != 't') {
                    return -1000 - i;
                }
                first = end == i ? -1 : Integer.parseInt(text.substring(i, end));
                i = end;
                if (letter == 'f' && at(i) == '-') {
                    i++;
                    end = numberEnd(i);
                    if (end == i) {
                        return -1000 - i;
                    }
                    second = Integer.parseInt(text.substring(i, end));
                    i = end;
                }
            }
            if (at(i) != ';') {
                return -1000 - i;
            }
            i++;
            if (command(letter, first, second) < 0) {
                return -1000 - begin;
            }
            commands++;
        }
        return commands;
    }

    int run() {
        State before = s.copy();
        return record(before, doRun());
    }

    private int wrongBits(boolean onlyOnes) {
        int n = 0;
        for (int w = 0; w < 10; w++) {
            n += s.bit[w] != full(w) && (s.bit[w] || !onlyOnes) ? 1 : 0;
        }
        return n;
    }

    private int longest() {
        int many = 0;
        while (many < 320 && findRun(many + 1) >= 0) {
            many++;
        }
        return many;
    }

    int count(int what) {
        int n = 0;
        switch (what) {
            case 0: case 1: case 2: case 3:
                return number(what, 0, 319);
            case 4:
                for (int b = 0; b < 8; b++) {
                    n += s.size[b] > 0 ? 1 : 0;
                }
                return n;
            case 5:
                return s.looks;
            case 6:
                for (int w = 0; w < 10; w++) {
                    n += s.bit[w] ? 1 : 0;
                }
                return n;
            case 7:
                for (int w = 0; w < 10; w++) {
                    n += full(w) ? 1 : 0;
                }
                return n;
            case 8:
                for (int i = 0; i < 320; i++) {
                    n += s.kind[i] == FREE && (i == 319 || s.kind[i + 1] != FREE) ? 1 : 0;
                }
                return n;
            case 9:
                return longest();
            case 10:
                return history.size();
            case 11:
                return text.length();
            default:
                return -1;
        }
    }

    int slot(int slot, int what) {
        if (slot < 0 || slot > 319 || what < 0 || what > 1) {
            return -1;
        }
        return what == 0 ? s.kind[slot] : s.owner[slot];
    }

    int word(int word, int what) {
        if (word < 0 || word > 9 || what < 0 || what > 6) {
            return -1;
        }
        if (what <= 3) {
            return number(what, word * 32, word * 32 + 31);
        }
        if (what == 4) {
            return s.bit[word] ? 1 : 0;
        }
        if (what == 5) {
            return full(word) ? 1 : 0;
        }
        for (int i = word * 32; i < word * 32 + 32; i++) {
            if (s.kind[i] == FREE) {
                return i;
            }
        }
        return -9;
    }

    int block(int block, int what) {
        if (block < 0 || block > 7 || what < 0 || what > 3) {
            return -1;
        }
        if (noBlock(block)) {
            return -9;
        }
        int first = s.start[block];
        int size = s.size[block];
        return what == 0 ? first : what == 1 ? size : number(what == 2 ? USED : KEPT, first, first + size - 1);
    }

    int audit(int what) {
        if (what < 0 || what > 2) {
            return -1;
        }
        if (what != 1) {
            return wrongBits(what == 2);
        }
        for (int w = 0; w < 10; w++) {
            if (s.bit[w] != full(w)) {
                return w;
            }
        }
        return -9;
    }

    int next(int what) {
        if (what < 0 || what > 2) {
            return -1;
        }
        State before = s;
        s = before.copy();
        int slot = doTake();
        int looks = s.looks - before.looks;
        int cleared = !Arrays.equals(lazy(s), lazy(before)) ? 1 : 0;
        s = before;
        return slot < 0 ? -9 : what == 0 ? slot : what == 1 ? looks : cleared;
    }

    private static boolean[] lazy(State state) {
        boolean[] lazy = new boolean[320];
        for (int i = 0; i < 320; i++) {
            lazy[i] = state.kind[i] == LAZY;
        }
        return lazy;
    }

    int runAt(int many) {
        return many < 1 || many > 64 ? -1 : findRun(many);
    }

    int placeFor(int size) {
        return badSize(size) ? -1 : findPlace(size);
    }

    int takes() {
        State before = s;
        s = before.copy();
        int n = 0;
        while (doTake() >= 0) {
            n++;
        }
        s = before;
        return n;
    }
}
