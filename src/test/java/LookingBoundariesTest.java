/** The boundary cases of the promises 15 to 19: count, slot, word, block, audit. */
public final class LookingBoundariesTest extends MapChecks {
    public static void main(String[] args) throws ReflectiveOperationException {
        new LookingBoundariesTest().runPromises(15, 19);
    }

    private static String[] some() {
        return start("t40;f3-5;", "r8;b0;", "d2;");
    }

    void promise15WhatOutOfRange() {
        for (int what : new int[] {-1, 12, 13, LEAST, MOST}) {
            dueUnchanged(some(), "count(" + what + ")", x -> x.count(what), INVALID);
        }
    }

    void promise15ChangesNothing() {
        int[] dues = {272, 38, 3, 7, 1, 40, 2, 1, 1, 272, 3, 3};
        for (int what = 0; what < dues.length; what++) {
            int asked = what;
            dueUnchanged(some(), "count(" + what + ")", x -> x.count(asked), dues[what]);
        }
    }

    void promise15AllSlotsOfOneKind() {
        String[] programs = {"", "t320;", "t320;f0-319;"};
        for (int kind = 0; kind < programs.length; kind++) {
            SlotMaps x = after(programs[kind]);
            for (int what = 0; what < 4; what++) {
                due("count(" + what + ") after " + programs[kind], x.count(what), what == kind ? 320 : 0);
            }
        }
        due("the most that can be kept", after("r32;r32;r32;r32;r32;r32;r32;r32;").count(3), 256);
    }

    void promise15NoBlockToEightBlocks() {
        SlotMaps x = new SlotMaps();
        for (int blocks = 0; blocks <= 8; blocks++) {
            due("count(4)", x.count(4), blocks);
            x.reserve(4);
        }
        due("count(4) after a refusal", x.count(4), 8);
        x.giveUp(0);
        due("count(4) after giveUp(0)", x.count(4), 7);
    }

    void promise15BitsAndFullWordsApart() {
        SlotMaps x = after("t320;", ALL_BITS);
        due("count(6), each bit wrong", x.count(6), 0);
        due("count(7)", x.count(7), 10);
        SlotMaps y = after(ALL_BITS);
        due("count(6), each bit wrong", y.count(6), 10);
        due("count(7)", y.count(7), 0);
        SlotMaps z = after("t31;");
        due("count(7), one slot is free", z.count(7), 0);
        z.take();
        due("count(7), none is", z.count(7), 1);
    }

    void promise15NoRunOfFreeSlots() {
        SlotMaps x = after("t320;f0-9;");
        due("count(8)", x.count(8), 0);
        due("count(9)", x.count(9), 0);
    }

    void promise15OneRunOfAllSlots() {
        due("count(8)", new SlotMaps().count(8), 1);
        due("count(9)", new SlotMaps().count(9), 320);
    }

    void promise15RunFromWordToWord() {
        SlotMaps x = after("t320;f31-32;f63-96;c10;");
        due("count(8)", x.count(8), 2);
        due("count(9)", x.count(9), 34);
    }

    void promise15RunsAtBothEndsOfTheMapAreTwo() {
        SlotMaps x = after("t320;f0-1;f318-319;c10;");
        due("count(8)", x.count(8), 2);
        due("count(9)", x.count(9), 2);
    }

    void promise15LongestRunFirstOrLast() {
        due("the first is the longest", after("t320;f0-4;f9-11;c1;").count(9), 5);
        due("the last is the longest", after("t320;f0-2;f315-319;c10;").count(9), 5);
        due("all are as long", after("t320;f0;f9;f319;c10;").count(9), 1);
        due("so many runs", after("t320;f0;f9;f319;c10;").count(8), 3);
    }

    void promise15MostRuns() {
        SlotMaps x = after("t320;");
        for (int slot = 0; slot < 320; slot += 2) {
            x.giveBack(slot, slot);
        }
        x.clear(10);
        due("count(8)", x.count(8), 160);
        due("count(9)", x.count(9), 1);
    }

    void promise15StatesFrom0To5() {
        SlotMaps x = new SlotMaps();
        for (int actions = 0; actions < 8; actions++) {
            due("count(10)", x.count(10), Math.min(actions, 5));
            x.take();
        }
    }

    void promise15LengthFrom0To80() {
        SlotMaps x = new SlotMaps();
        for (int length = 0; length < 83; length++) {
            due("count(11)", x.count(11), Math.min(length, 80));
            x.append('t');
        }
    }

    void promise16SlotOutOfRange() {
        for (int slot : new int[] {-1, 320, LEAST, MOST}) {
            dueUnchanged(some(), "slot(" + slot + ", 0)", x -> x.slot(slot, 0), INVALID);
            dueUnchanged(some(), "slot(" + slot + ", 1)", x -> x.slot(slot, 1), INVALID);
        }
        due("slot(320, 2)", new SlotMaps().slot(320, 2), INVALID);
    }

    void promise16WhatOutOfRange() {
        for (int what : new int[] {-1, 2, LEAST, MOST}) {
            dueUnchanged(some(), "slot(0, " + what + ")", x -> x.slot(0, what), INVALID);
            dueUnchanged(some(), "slot(319, " + what + ")", x -> x.slot(319, what), INVALID);
        }
    }

    void promise16FirstAndLastSlot() {
        SlotMaps x = new SlotMaps();
        due("slot(0, 0)", x.slot(0, 0), 0);
        due("slot(319, 0)", x.slot(319, 0), 0);
        due("slot(0, 1)", x.slot(0, 1), NONE);
        due("slot(319, 1)", x.slot(319, 1), NONE);
        SlotMaps y = after("r4;t312;r4;f4;");
        due("slot(0, 0)", y.slot(0, 0), 3);
        due("slot(0, 1)", y.slot(0, 1), 0);
        due("slot(4, 0)", y.slot(4, 0), 2);
        due("slot(319, 0)", y.slot(319, 0), 3);
        due("slot(319, 1)", y.slot(319, 1), 1);
    }

    void promise16EachKind() {
        SlotMaps x = after("t40;f31-33;r8;b0;");
        int[][] dues = {{30, 1}, {31, 2}, {32, 2}, {33, 2}, {34, 1}, {39, 1}, {40, 1}, {41, 3}, {47, 3}, {48, 0}};
        for (int[] due : dues) {
            due("slot(" + due[0] + ", 0)", x.slot(due[0], 0), due[1]);
        }
        dueUnchanged(some(), "slot(3, 0)", y -> y.slot(3, 0), 2);
    }

    void promise16FirstAndLastSlotOfABlock() {
        SlotMaps x = after("r4;r4;r32;");
        int[][] dues = {{0, 0}, {3, 0}, {4, 1}, {7, 1}, {8, NONE}, {31, NONE}, {32, 2}, {63, 2}, {64, NONE}};
        for (int[] due : dues) {
            due("slot(" + due[0] + ", 1)", x.slot(due[0], 1), due[1]);
        }
        dueUnchanged(start("r4;"), "slot(3, 1)", y -> y.slot(3, 1), 0);
    }

    void promise16LastBlock() {
        SlotMaps x = after(EIGHT_BLOCKS);
        due("slot(31, 1)", x.slot(31, 1), 7);
        due("slot(32, 1)", x.slot(32, 1), NONE);
    }

    void promise16SlotOfABlockGivenUp() {
        SlotMaps x = after("r4;r4;b0;b1;");
        x.giveUp(0);
        due("a used slot of it", x.slot(0, 1), NONE);
        due("a free slot of it", x.slot(3, 1), NONE);
        due("a used slot of another", x.slot(4, 1), 1);
    }

    void promise17WordOutOfRange() {
        for (int what = 0; what < 7; what++) {
            for (int word : new int[] {-1, 10, LEAST, MOST}) {
                due("word(" + word + ", " + what + ")", after(some()).word(word, what), INVALID);
            }
        }
        dueUnchanged(some(), "word(10, 0)", x -> x.word(10, 0), INVALID);
        dueUnchanged(some(), "word(-1, 6)", x -> x.word(-1, 6), INVALID);
    }

    void promise17WhatOutOfRange() {
        for (int what : new int[] {-1, 7, LEAST, MOST}) {
            dueUnchanged(some(), "word(0, " + what + ")", x -> x.word(0, what), INVALID);
            dueUnchanged(some(), "word(9, " + what + ")", x -> x.word(9, what), INVALID);
        }
    }

    private void dueWord(SlotMaps x, int word, int... dues) {
        for (int what = 0; what < 7; what++) {
            due("word(" + word + ", " + what + ")", x.word(word, what), dues[what]);
        }
    }

    void promise17FirstAndLastWord() {
        SlotMaps x = after("t319;");
        dueWord(x, 0, 0, 32, 0, 0, 1, 1, NONE);
        dueWord(x, 8, 0, 32, 0, 0, 1, 1, NONE);
        dueWord(x, 9, 1, 31, 0, 0, 0, 0, 319);
        dueWord(new SlotMaps(), 0, 32, 0, 0, 0, 0, 0, 0);
        dueWord(new SlotMaps(), 9, 32, 0, 0, 0, 0, 0, 288);
    }

    void promise17FullByLazyAndKeptSlots() {
        SlotMaps x = after("t32;f0-31;r32;");
        dueWord(x, 0, 0, 0, 32, 0, 1, 1, NONE);
        dueWord(x, 1, 0, 0, 0, 32, 1, 1, NONE);
        SlotMaps y = after("t20;f0-9;r8;r4;");
        dueWord(y, 0, 0, 10, 10, 12, 1, 1, NONE);
    }

    void promise17WrongBitTellsNothingOfFullness() {
        SlotMaps x = after("t32;d0;d1;");
        dueWord(x, 0, 0, 32, 0, 0, 0, 1, NONE);
        dueWord(x, 1, 32, 0, 0, 0, 1, 0, 32);
    }

    void promise17FirstFreeSlot() {
        due("the last of the word", after("t31;").word(0, 6), 31);
        due("the first of the word", after("t32;").word(1, 6), 32);
        due("in front of used ones", after("t64;f40;f50;c1;").word(1, 6), 40);
        due("lazy ones are not free", after("t40;f33;").word(1, 6), 40);
    }

    void promise17ChangesNothing() {
        dueUnchanged(some(), "word(1, 6)", x -> x.word(1, 6), 48);
        dueUnchanged(some(), "word(2, 4)", x -> x.word(2, 4), 1);
        dueUnchanged(some(), "word(0, 5)", x -> x.word(0, 5), 1);
    }

    void promise18BlockOutOfRange() {
        for (int block : new int[] {-1, 8, LEAST, MOST}) {
            for (int what = 0; what < 4; what++) {
                due("block(" + block + ", " + what + ")", after(EIGHT_BLOCKS).block(block, what), INVALID);
            }
            dueUnchanged(some(), "block(" + block + ", 0)", x -> x.block(block, 0), INVALID);
        }
    }

    void promise18WhatOutOfRange() {
        for (int what : new int[] {-1, 4, LEAST, MOST}) {
            dueUnchanged(some(), "block(0, " + what + ")", x -> x.block(0, what), INVALID);
        }
    }

    void promise18OutOfRangeIsToldBeforeNoSuchBlock() {
        due("block(7, -1)", new SlotMaps().block(7, -1), INVALID);
        due("block(0, 4)", new SlotMaps().block(0, 4), INVALID);
        due("block(8, 4)", new SlotMaps().block(8, 4), INVALID);
    }

    void promise18NoSuchBlock() {
        for (int what = 0; what < 4; what++) {
            int asked = what;
            due("block(0, " + what + ")", new SlotMaps().block(0, what), NONE);
            due("block(7, " + what + ")", new SlotMaps().block(7, what), NONE);
            dueUnchanged(some(), "block(1, " + what + ")", x -> x.block(1, asked), NONE);
        }
    }

    void promise18BlockThatIsGivenUp() {
        SlotMaps x = after("r4;r8;");
        x.giveUp(0);
        for (int what = 0; what < 4; what++) {
            due("block(0, " + what + ")", x.block(0, what), NONE);
        }
        due("block(1, 0)", x.block(1, 0), 8);
    }

    private void dueBlock(SlotMaps x, int block, int... dues) {
        for (int what = 0; what < 4; what++) {
            due("block(" + block + ", " + what + ")", x.block(block, what), dues[what]);
        }
    }

    void promise18FirstAndLastBlock() {
        SlotMaps x = after(EIGHT_BLOCKS, "b7;");
        dueBlock(x, 0, 0, 4, 0, 4);
        dueBlock(x, 7, 28, 4, 1, 3);
    }

    void promise18NoneAndAllOfItsSlotsUsed() {
        for (int size : new int[] {4, 8, 16, 32}) {
            SlotMaps x = after("t288;r" + size + ";");
            for (int used = 0; used <= size; used++) {
                dueBlock(x, 0, 288, size, used, size - used);
                x.takeIn(0);
            }
        }
    }

    void promise18SlotsOfOthersDoNotCount() {
        SlotMaps x = after("t4;r4;t4;r4;b0;");
        dueBlock(x, 0, 4, 4, 1, 3);
        dueBlock(x, 1, 12, 4, 0, 4);
    }

    void promise18ChangesNothing() {
        dueUnchanged(some(), "block(0, 0)", x -> x.block(0, 0), 40);
        dueUnchanged(some(), "block(0, 3)", x -> x.block(0, 3), 7);
    }

    void promise19WhatOutOfRange() {
        for (int what : new int[] {-1, 3, LEAST, MOST}) {
            dueUnchanged(some(), "audit(" + what + ")", x -> x.audit(what), INVALID);
            due("all are right: audit(" + what + ")", new SlotMaps().audit(what), INVALID);
        }
    }

    private void dueAudit(String program, int... dues) {
        for (int what = 0; what < 3; what++) {
            due("audit(" + what + ") after " + program, after(program).audit(what), dues[what]);
        }
    }

    void promise19AllBitsAreRight() {
        dueAudit("", 0, NONE, 0);
        dueAudit("t320;", 0, NONE, 0);
        dueAudit("t40;d0;d0;", 0, NONE, 0);
        dueAudit("t32;f0-31;r32;", 0, NONE, 0);
    }

    void promise19AllBitsAreWrong() {
        dueAudit(ALL_BITS, 10, 0, 10);
        dueAudit("t320;" + ALL_BITS, 10, 0, 0);
        dueAudit("t128;" + ALL_BITS, 10, 0, 6);
    }

    void promise19FirstOrLastBitIsWrong() {
        dueAudit("d0;", 1, 0, 1);
        dueAudit("d9;", 1, 9, 1);
        dueAudit("t320;d0;", 1, 0, 0);
        dueAudit("t320;d9;", 1, 9, 0);
        dueAudit("t160;d9;d4;", 2, 4, 1);
    }

    void promise19ChangesNothing() {
        dueUnchanged(some(), "audit(0)", x -> x.audit(0), 1);
        dueUnchanged(some(), "audit(1)", x -> x.audit(1), 2);
        dueUnchanged(some(), "audit(2)", x -> x.audit(2), 1);
        dueUnchanged(start("t40;"), "audit(1)", x -> x.audit(1), NONE);
    }
}
