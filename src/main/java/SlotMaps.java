/** A map of used slots with a summary bit for each word. What it does is told in shared/DOC.md. */
public final class SlotMaps {
    public static final int INVALID_ARGUMENT = -1;
    public static final int ILLEGAL_STATE = -2;
    public static final int CAPACITY_EXCEEDED = -3;
    public static final int NONE = -9;

    private static final int WORDS = 10;
    private static final int WORD_SLOTS = 32;
    private static final int SLOTS = 320;
    private static final int BLOCKS = 8;
    private static final int SMALLEST_BLOCK = 4;
    private static final int LONGEST_RUN = 64;
    private static final int HISTORY_STATES = 5;
    private static final int TEXT_ROOM = 80;
    private static final int LAST_CHARACTER = 255;
    private static final int PROGRAM_FAILURE = -1000;

    private static final int FREE = 0;
    private static final int USED = 1;
    private static final int LAZY = 2;
    private static final int KEPT = 3;
    private static final int KINDS = 4;

    private final Slots now;
    private final Slots trial;
    private final History history;
    private final Program program;
    private final char[] text;
    private int textLength;

    public SlotMaps() {
        now = new Slots();
        trial = new Slots();
        history = new History();
        program = new Program();
        text = new char[TEXT_ROOM];
        textLength = 0;
    }

    // ---- slots

    public int take() {
        history.prepare(now);
        return settle(now.takeOne());
    }

    public int takeRun(int many) {
        history.prepare(now);
        return settle(now.takeSideBySide(many));
    }

    public int giveBack(int from, int to) {
        history.prepare(now);
        return settle(now.giveBackRange(from, to));
    }

    public int clear(int words) {
        history.prepare(now);
        return settle(now.clearWords(words));
    }

    // ---- blocks

    public int reserve(int size) {
        history.prepare(now);
        return settle(now.reserveBlock(size));
    }

    public int takeIn(int block) {
        history.prepare(now);
        return settle(now.takeInBlock(block));
    }

    public int giveUp(int block) {
        history.prepare(now);
        return settle(now.giveUpBlock(block));
    }

    // ---- summaries

    public int damage(int word) {
        history.prepare(now);
        return settle(now.damageBit(word));
    }

    public int repair() {
        history.prepare(now);
        return settle(now.repairBits());
    }

    public int undo() {
        return history.restoreLatest(now);
    }

    // ---- programs

    public int append(int character) {
        if (character < 1 || character > LAST_CHARACTER) {
            return INVALID_ARGUMENT;
        }
        if (textLength >= TEXT_ROOM) {
            return CAPACITY_EXCEEDED;
        }
        text[textLength] = (char) character;
        textLength++;
        return textLength;
    }

    public int clearText() {
        int previous = textLength;
        textLength = 0;
        return previous;
    }

    public int run() {
        history.prepare(now);
        return settle(program.execute(text, textLength, now));
    }

    // ---- looking

    public int count(int what) {
        switch (what) {
            case 0:
            case 1:
            case 2:
            case 3:
                return now.total(what);
            case 4:
                return now.blockTotal();
            case 5:
                return now.looks;
            case 6:
                return Integer.bitCount(now.summary);
            case 7:
                return Integer.bitCount(now.rightSummary());
            case 8:
                return now.freeRuns();
            case 9:
                return now.longestFreeRun();
            case 10:
                return history.states;
            case 11:
                return textLength;
            default:
                return INVALID_ARGUMENT;
        }
    }

    public int slot(int slot, int what) {
        if (slot < 0 || slot >= SLOTS) {
            return INVALID_ARGUMENT;
        }
        switch (what) {
            case 0:
                return now.kindOf(slot);
            case 1:
                return now.blockOf(slot);
            default:
                return INVALID_ARGUMENT;
        }
    }

    public int word(int word, int what) {
        if (word < 0 || word >= WORDS) {
            return INVALID_ARGUMENT;
        }
        switch (what) {
            case 0:
            case 1:
            case 2:
            case 3:
                return Integer.bitCount(now.bits[what][word]);
            case 4:
                return now.summaryBit(word);
            case 5:
                return now.isFull(word) ? 1 : 0;
            case 6:
                return now.firstFree(word);
            default:
                return INVALID_ARGUMENT;
        }
    }

    public int block(int block, int what) {
        if (block < 0 || block >= BLOCKS || what < 0 || what > 3) {
            return INVALID_ARGUMENT;
        }
        if (!now.hasBlock(block)) {
            return NONE;
        }
        switch (what) {
            case 0:
                return now.blockFirst[block];
            case 1:
                return now.blockSize[block];
            case 2:
                return now.totalInBlock(block, USED);
            default:
                return now.totalInBlock(block, KEPT);
        }
    }

    public int audit(int what) {
        int wrong = now.summary ^ now.rightSummary();
        switch (what) {
            case 0:
                return Integer.bitCount(wrong);
            case 1:
                return wrong == 0 ? NONE : lowestBit(wrong);
            case 2:
                return Integer.bitCount(wrong & now.summary);
            default:
                return INVALID_ARGUMENT;
        }
    }

    // ---- what could be, which changes nothing

    public int next(int what) {
        if (what < 0 || what > 2) {
            return INVALID_ARGUMENT;
        }
        trial.copyFrom(now);
        int slot = trial.takeOne();
        if (slot < 0) {
            return NONE;
        }
        switch (what) {
            case 0:
                return slot;
            case 1:
                return trial.looks - now.looks;
            default:
                return trial.total(LAZY) < now.total(LAZY) ? 1 : 0;
        }
    }

    public int runAt(int many) {
        return isRunLength(many) ? now.runStart(many) : INVALID_ARGUMENT;
    }

    public int placeFor(int size) {
        return isBlockSize(size) ? now.placeStart(size) : INVALID_ARGUMENT;
    }

    public int takes() {
        return now.reachable();
    }

    /** Ends an action: what a refused one has begun is taken back, a successful one is recorded. */
    private int settle(int answer) {
        if (answer < 0) {
            history.takeBack(now);
        } else {
            history.keep();
        }
        return answer;
    }

    private static boolean isRunLength(int many) {
        return many >= 1 && many <= LONGEST_RUN;
    }

    private static boolean isBlockSize(int size) {
        return size == 4 || size == 8 || size == 16 || size == 32;
    }

    private static int wordOf(int slot) {
        return slot / WORD_SLOTS;
    }

    /** The slot as a bit of its word. */
    private static int bitOf(int slot) {
        return 1 << (slot % WORD_SLOTS);
    }

    /** The number of the lowest bit that is 1; 32 if there is none. */
    private static int lowestBit(int bits) {
        return Integer.bitCount(~bits & (bits - 1));
    }

    /** The slots of a range that lie in a word, as bits; none if the range is empty. */
    private static int rangeBits(int word, int from, int to) {
        int low = Math.max(from - word * WORD_SLOTS, 0);
        int high = Math.min(to - word * WORD_SLOTS, WORD_SLOTS - 1);
        return low > high ? 0 : (-1 << low) & (-1 >>> (WORD_SLOTS - 1 - high));
    }

    /** All that undo() restores. A call of it that is refused may leave changes behind: the caller takes them back. */
    private static final class Slots {
        /** For each kind and each word, the slots of the word that are of this kind. */
        private final int[][] bits;
        private final int[] blockFirst;
        /** 0 for a number that no block has. */
        private final int[] blockSize;
        private int summary;
        private int looks;

        Slots() {
            bits = new int[KINDS][WORDS];
            blockFirst = new int[BLOCKS];
            blockSize = new int[BLOCKS];
            summary = 0;
            looks = 0;
            for (int word = 0; word < WORDS; word++) {
                bits[FREE][word] = -1;
            }
        }

        void copyFrom(Slots other) {
            for (int kind = 0; kind < KINDS; kind++) {
                System.arraycopy(other.bits[kind], 0, bits[kind], 0, WORDS);
            }
            System.arraycopy(other.blockFirst, 0, blockFirst, 0, BLOCKS);
            System.arraycopy(other.blockSize, 0, blockSize, 0, BLOCKS);
            summary = other.summary;
            looks = other.looks;
        }

        int takeOne() {
            int slot = takeBySummaries();
            if (slot == NONE && clearWords(WORDS) > 0) {
                slot = takeBySummaries();
            }
            return slot == NONE ? CAPACITY_EXCEEDED : slot;
        }

        private int takeBySummaries() {
            for (int word = 0; word < WORDS; word++) {
                if (summaryBit(word) == 0) {
                    looks++;
                    if (!isFull(word)) {
                        int slot = word * WORD_SLOTS + lowestBit(bits[FREE][word]);
                        change(word, bitOf(slot), FREE, USED);
                        return slot;
                    }
                    summary |= 1 << word;
                }
            }
            return NONE;
        }

        int takeMany(int many) {
            if (many < 1 || many > SLOTS) {
                return INVALID_ARGUMENT;
            }
            for (int taken = 0; taken < many; taken++) {
                if (takeOne() < 0) {
                    return CAPACITY_EXCEEDED;
                }
            }
            return many;
        }

        int takeSideBySide(int many) {
            if (!isRunLength(many)) {
                return INVALID_ARGUMENT;
            }
            int first = runStart(many);
            if (first == NONE) {
                return CAPACITY_EXCEEDED;
            }
            int last = first + many - 1;
            looks += wordOf(last) + 1;
            for (int word = 0; word < WORDS; word++) {
                change(word, rangeBits(word, first, last), FREE, USED);
            }
            return first;
        }

        int giveBackRange(int from, int to) {
            if (from < 0 || to >= SLOTS || from > to) {
                return INVALID_ARGUMENT;
            }
            int given = 0;
            for (int word = 0; word < WORDS; word++) {
                int used = bits[USED][word] & rangeBits(word, from, to);
                int owned = used & ownedBits(word);
                change(word, used & ~owned, USED, LAZY);
                change(word, owned, USED, KEPT);
                given += Integer.bitCount(used);
            }
            return given == 0 ? ILLEGAL_STATE : given;
        }

        int clearWords(int words) {
            if (words < 1 || words > WORDS) {
                return INVALID_ARGUMENT;
            }
            int cleared = 0;
            int freed = 0;
            for (int word = 0; word < WORDS && cleared < words; word++) {
                int lazy = bits[LAZY][word];
                if (lazy != 0) {
                    change(word, lazy, LAZY, FREE);
                    freed += Integer.bitCount(lazy);
                    cleared++;
                }
            }
            return freed;
        }

        int reserveBlock(int size) {
            if (!isBlockSize(size)) {
                return INVALID_ARGUMENT;
            }
            int block = firstUnusedBlock();
            int first = placeStart(size);
            if (block == NONE || first == NONE) {
                return CAPACITY_EXCEEDED;
            }
            blockFirst[block] = first;
            blockSize[block] = size;
            change(wordOf(first), blockBits(block), FREE, KEPT);
            return block;
        }

        int takeInBlock(int block) {
            if (!hasBlock(block)) {
                return INVALID_ARGUMENT;
            }
            int word = wordOf(blockFirst[block]);
            int kept = bits[KEPT][word] & blockBits(block);
            if (kept == 0) {
                return CAPACITY_EXCEEDED;
            }
            int slot = word * WORD_SLOTS + lowestBit(kept);
            change(word, bitOf(slot), KEPT, USED);
            return slot;
        }

        int giveUpBlock(int block) {
            if (!hasBlock(block)) {
                return INVALID_ARGUMENT;
            }
            int word = wordOf(blockFirst[block]);
            int kept = bits[KEPT][word] & blockBits(block);
            change(word, kept, KEPT, FREE);
            blockSize[block] = 0;
            return Integer.bitCount(kept);
        }

        int damageBit(int word) {
            if (word < 0 || word >= WORDS) {
                return INVALID_ARGUMENT;
            }
            summary ^= 1 << word;
            return summaryBit(word);
        }

        int repairBits() {
            int right = rightSummary();
            int repaired = Integer.bitCount(summary ^ right);
            summary = right;
            return repaired;
        }

        /** The one place where a slot's kind changes, so that the summary bit is set right with it. */
        private void change(int word, int slots, int from, int to) {
            if (slots == 0) {
                return;
            }
            bits[from][word] &= ~slots;
            bits[to][word] |= slots;
            if (isFull(word)) {
                summary |= 1 << word;
            } else {
                summary &= ~(1 << word);
            }
        }

        int total(int kind) {
            int total = 0;
            for (int word = 0; word < WORDS; word++) {
                total += Integer.bitCount(bits[kind][word]);
            }
            return total;
        }

        int kindOf(int slot) {
            for (int kind = 0; kind < KINDS; kind++) {
                if ((bits[kind][wordOf(slot)] & bitOf(slot)) != 0) {
                    return kind;
                }
            }
            return FREE;
        }

        private boolean isFree(int slot) {
            return (bits[FREE][wordOf(slot)] & bitOf(slot)) != 0;
        }

        boolean isFull(int word) {
            return bits[FREE][word] == 0;
        }

        int firstFree(int word) {
            return isFull(word) ? NONE : word * WORD_SLOTS + lowestBit(bits[FREE][word]);
        }

        int summaryBit(int word) {
            return (summary >> word) & 1;
        }

        /** What the summary is meant to be. */
        int rightSummary() {
            int right = 0;
            for (int word = 0; word < WORDS; word++) {
                if (isFull(word)) {
                    right |= 1 << word;
                }
            }
            return right;
        }

        int runStart(int many) {
            int row = 0;
            for (int slot = 0; slot < SLOTS; slot++) {
                row = isFree(slot) ? row + 1 : 0;
                if (row == many) {
                    return slot - many + 1;
                }
            }
            return NONE;
        }

        int freeRuns() {
            int runs = 0;
            boolean inRun = false;
            for (int slot = 0; slot < SLOTS; slot++) {
                boolean free = isFree(slot);
                if (free && !inRun) {
                    runs++;
                }
                inRun = free;
            }
            return runs;
        }

        int longestFreeRun() {
            int longest = 0;
            int row = 0;
            for (int slot = 0; slot < SLOTS; slot++) {
                row = isFree(slot) ? row + 1 : 0;
                longest = Math.max(longest, row);
            }
            return longest;
        }

        /**
         * The slots that one take() after the other comes to. When lazy slots are cleared, the summary bit of
         * their word is set right, so that a wrong 1 hides a word for good only if it has no lazy slots.
         */
        int reachable() {
            int slots = 0;
            for (int word = 0; word < WORDS; word++) {
                if (summaryBit(word) == 0 || bits[LAZY][word] != 0) {
                    slots += Integer.bitCount(bits[FREE][word] | bits[LAZY][word]);
                }
            }
            return slots;
        }

        boolean hasBlock(int block) {
            return block >= 0 && block < BLOCKS && blockSize[block] != 0;
        }

        int blockTotal() {
            int total = 0;
            for (int block = 0; block < BLOCKS; block++) {
                if (hasBlock(block)) {
                    total++;
                }
            }
            return total;
        }

        private int firstUnusedBlock() {
            for (int block = 0; block < BLOCKS; block++) {
                if (!hasBlock(block)) {
                    return block;
                }
            }
            return NONE;
        }

        /** The sizes are powers of two, so that the lowest bits of a place tell whether it fits the size. */
        int placeStart(int size) {
            for (int first = 0; first < SLOTS; first += SMALLEST_BLOCK) {
                if ((first & (size - 1)) == 0) {
                    int word = wordOf(first);
                    int wanted = rangeBits(word, first, first + size - 1);
                    if ((bits[FREE][word] & wanted) == wanted) {
                        return first;
                    }
                }
            }
            return NONE;
        }

        int blockOf(int slot) {
            for (int block = 0; block < BLOCKS; block++) {
                if (slot >= blockFirst[block] && slot < blockFirst[block] + blockSize[block]) {
                    return block;
                }
            }
            return NONE;
        }

        int totalInBlock(int block, int kind) {
            return Integer.bitCount(bits[kind][wordOf(blockFirst[block])] & blockBits(block));
        }

        /** The slots of a block, as bits of its word: no block goes on into a second one. */
        private int blockBits(int block) {
            int first = blockFirst[block];
            return rangeBits(wordOf(first), first, first + blockSize[block] - 1);
        }

        /** The slots of a word that belong to blocks. */
        private int ownedBits(int word) {
            int owned = 0;
            for (int block = 0; block < BLOCKS; block++) {
                if (wordOf(blockFirst[block]) == word) {
                    owned |= blockBits(block);
                }
            }
            return owned;
        }
    }

    /** A ring of rows that are made once; the place behind the latest state holds what was before the open action. */
    private static final class History {
        private final Slots[] ring;
        private int oldest;
        private int states;

        History() {
            ring = new Slots[HISTORY_STATES + 1];
            for (int place = 0; place <= HISTORY_STATES; place++) {
                ring[place] = new Slots();
            }
            oldest = 0;
            states = 0;
        }

        void prepare(Slots now) {
            ring[behindLatest()].copyFrom(now);
        }

        void takeBack(Slots now) {
            now.copyFrom(ring[behindLatest()]);
        }

        void keep() {
            if (states < HISTORY_STATES) {
                states++;
            } else {
                oldest = (oldest + 1) % (HISTORY_STATES + 1);
            }
        }

        int restoreLatest(Slots now) {
            if (states == 0) {
                return ILLEGAL_STATE;
            }
            states--;
            takeBack(now);
            return states;
        }

        private int behindLatest() {
            return (oldest + states) % (HISTORY_STATES + 1);
        }
    }

    /** Reads a text character by character, and holds what is read of the command that is not yet ended. */
    private static final class Program {
        private static final char NO_LETTER = 0;
        private static final int MOST_DIGITS = 3;

        private char letter;
        private int letterPlace;
        private boolean hasFrom;
        private int from;
        private int number;
        private int digits;

        Program() {
            letter = NO_LETTER;
        }

        /** The number of commands, or what run() answers to a failure. */
        int execute(char[] text, int length, Slots slots) {
            int commands = 0;
            letter = NO_LETTER;
            for (int place = 0; place < length; place++) {
                char character = text[place];
                if (!readCharacter(character, place)) {
                    return PROGRAM_FAILURE - place;
                }
                if (character == ';') {
                    if (perform(slots) < 0) {
                        return PROGRAM_FAILURE - letterPlace;
                    }
                    commands++;
                    letter = NO_LETTER;
                }
            }
            return letter == NO_LETTER ? commands : PROGRAM_FAILURE - length;
        }

        /** False if the character is not allowed where it stands. */
        private boolean readCharacter(char character, int place) {
            if (letter == NO_LETTER) {
                return readLetter(character, place);
            }
            if (character >= '0' && character <= '9') {
                return readDigit(character - '0');
            }
            if (character == '-') {
                return readDash();
            }
            return character == ';' && mayEnd();
        }

        private boolean readLetter(char character, int place) {
            switch (character) {
                case 't':
                case 'f':
                case 'c':
                case 'r':
                case 'b':
                case 'd':
                case 'a':
                    letter = character;
                    letterPlace = place;
                    hasFrom = false;
                    number = 0;
                    digits = 0;
                    return true;
                default:
                    return false;
            }
        }

        private boolean readDigit(int digit) {
            boolean behindZero = digits == 1 && number == 0;
            if (letter == 'a' || digits == MOST_DIGITS || behindZero) {
                return false;
            }
            number = number * 10 + digit;
            digits++;
            return true;
        }

        private boolean readDash() {
            if (letter != 'f' || hasFrom || digits == 0) {
                return false;
            }
            hasFrom = true;
            from = number;
            number = 0;
            digits = 0;
            return true;
        }

        private boolean mayEnd() {
            return digits > 0 || letter == 't' || letter == 'a';
        }

        /** Negative if the command is refused. */
        private int perform(Slots slots) {
            switch (letter) {
                case 't':
                    return slots.takeMany(digits == 0 ? 1 : number);
                case 'f':
                    return slots.giveBackRange(hasFrom ? from : number, number);
                case 'c':
                    return slots.clearWords(number);
                case 'r':
                    return slots.reserveBlock(number);
                case 'b':
                    return slots.takeInBlock(number);
                case 'd':
                    return slots.damageBit(number);
                default:
                    return slots.repairBits();
            }
        }
    }
}
