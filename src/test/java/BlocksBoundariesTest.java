/** The boundary cases of the promises 6 to 8: reserve, takeIn, giveUp. */
public final class BlocksBoundariesTest extends MapChecks {
    public static void main(String[] args) throws ReflectiveOperationException {
        new BlocksBoundariesTest().runPromises(6, 8);
    }

    void promise06SizeIsNoneOfThese() {
        SlotMaps x = new SlotMaps();
        for (int size = -40; size <= 130; size++) {
            if (!isSize(size)) {
                due("reserve(" + size + ")", x.reserve(size), INVALID);
            }
        }
        due("reserve(LEAST)", x.reserve(LEAST), INVALID);
        due("reserve(MOST)", x.reserve(MOST), INVALID);
        dueUnchanged(start("t5;"), "reserve(0)", y -> y.reserve(0), INVALID);
        dueUnchanged(start("t5;"), "reserve(5)", y -> y.reserve(5), INVALID);
        dueUnchanged(start("t5;"), "reserve(64)", y -> y.reserve(64), INVALID);
    }

    void promise06SizeIsToldBeforeNoRoom() {
        due("all used", after("t320;").reserve(5), INVALID);
        due("8 blocks", after(EIGHT_BLOCKS).reserve(64), INVALID);
    }

    void promise06EachSize() {
        for (int size : SIZES) {
            SlotMaps x = new SlotMaps();
            due("reserve(" + size + ")", x.reserve(size), 0);
            due("its first slot", x.block(0, 0), 0);
            due("its size", x.block(0, 1), size);
            due("kept", x.count(3), size);
            due("its last slot", x.slot(size - 1, 0), 3);
            due("the slot behind it", x.slot(size, 0), 0);
        }
    }

    void promise06EighthBlock() {
        SlotMaps x = after("r4;r4;r4;r4;r4;r4;r4;");
        due("reserve(32)", x.reserve(32), 7);
        due("blocks", x.count(4), 8);
    }

    void promise06NinthBlock() {
        for (int size : SIZES) {
            dueUnchanged(start(EIGHT_BLOCKS), "reserve(" + size + ")", x -> x.reserve(size), CAPACITY);
        }
        due("there is a place", after(EIGHT_BLOCKS).placeFor(4), 32);
    }

    void promise06NinthBlockIfOneIsGivenUp() {
        for (int block = 0; block < 8; block++) {
            SlotMaps x = after(EIGHT_BLOCKS);
            x.giveUp(block);
            due("reserve(32)", x.reserve(32), block);
            due("reserve(32) once more", x.reserve(32), CAPACITY);
        }
    }

    void promise06SmallestNumberThatNoBlockHas() {
        SlotMaps x = after(EIGHT_BLOCKS);
        x.giveUp(7);
        x.giveUp(2);
        x.giveUp(5);
        due("reserve(4)", x.reserve(4), 2);
        due("reserve(4)", x.reserve(4), 5);
        due("reserve(4)", x.reserve(4), 7);
    }

    void promise06NoPlace() {
        for (int size : SIZES) {
            dueUnchanged(start("t;", "t319;"), "reserve(" + size + ")", x -> x.reserve(size), CAPACITY);
        }
        dueUnchanged(start("t320;f0-319;"), "reserve(4) of lazy slots", x -> x.reserve(4), CAPACITY);
        dueUnchanged(start("r32;t288;"), "reserve(4) of kept slots", x -> x.reserve(4), CAPACITY);
    }

    void promise06LastPlace() {
        for (int size : SIZES) {
            int last = 320 - size;
            SlotMaps x = after("t" + last + ";");
            due("reserve(" + size + ")", x.reserve(size), 0);
            due("its first slot", x.block(0, 0), last);
            due("the last slot", x.slot(319, 0), 3);
            due("its block", x.slot(319, 1), 0);
            due("free", x.count(0), 0);
            dueUnchanged(start("t" + (last + 1) + ";"), "reserve(" + size + ")", y -> y.reserve(size), CAPACITY);
        }
    }

    void promise06BeginsAtASlotDivisibleByItsSize() {
        dueUnchanged(start("t320;f2-5;c1;"), "reserve(4)", x -> x.reserve(4), CAPACITY);
        dueUnchanged(start("t320;f1-6;c1;"), "reserve(4)", x -> x.reserve(4), CAPACITY);
        dueUnchanged(start("t320;f4-11;c1;"), "reserve(8)", x -> x.reserve(8), CAPACITY);
        dueUnchanged(start("t320;f1-14;c1;"), "reserve(8)", x -> x.reserve(8), CAPACITY);
        dueUnchanged(start("t320;f8-23;c1;"), "reserve(16)", x -> x.reserve(16), CAPACITY);
        dueUnchanged(start("t320;f1-30;c1;"), "reserve(16)", x -> x.reserve(16), CAPACITY);
        dueUnchanged(start("t320;f16-47;c2;"), "reserve(32)", x -> x.reserve(32), CAPACITY);
        dueUnchanged(start("t320;f1-62;c2;"), "reserve(32)", x -> x.reserve(32), CAPACITY);
    }

    void promise06AllItsSlotsMustBeFree() {
        for (int size : SIZES) {
            for (int used : new int[] {0, 1, size / 2, size - 1}) {
                SlotMaps x = after("t" + size + ";");
                x.giveBack(0, used - 1);
                x.giveBack(used + 1, size - 1);
                x.clear(1);
                due("free beside " + used, x.count(0), 319);
                due("reserve(" + size + ")", x.reserve(size), 0);
                due("its first slot", x.block(0, 0), size);
            }
        }
        due("all are free", after("t32;f0-31;c1;r32;").block(0, 0), 0);
    }

    void promise06FirstPlaceThatIsPossible() {
        SlotMaps x = after("t320;f3-9;f100-119;c10;");
        due("reserve(8)", x.reserve(8), 0);
        due("its first slot", x.block(0, 0), 104);
        due("reserve(4)", x.reserve(4), 1);
        due("its first slot", x.block(1, 0), 4);
        due("reserve(4)", x.reserve(4), 2);
        due("its first slot", x.block(2, 0), 100);
        due("reserve(8)", x.reserve(8), 3);
        due("its first slot", x.block(3, 0), 112);
        due("reserve(8)", x.reserve(8), CAPACITY);
    }

    void promise06BitOfTheWordThatBecomesFull() {
        SlotMaps x = after("t28;");
        due("word(0, 4) before", x.word(0, 4), 0);
        x.reserve(4);
        due("word(0, 4)", x.word(0, 4), 1);
        x.reserve(16);
        due("word(1, 4), not full", x.word(1, 4), 0);
        x.reserve(16);
        due("word(1, 4)", x.word(1, 4), 1);
        x.reserve(32);
        due("word(2, 4)", x.word(2, 4), 1);
    }

    void promise06BitOfItsWordAlone() {
        SlotMaps x = after("t32;d0;d1;d2;");
        due("reserve(16) in a word with a wrong bit", x.reserve(16), 0);
        due("its place", x.block(0, 0), 32);
        due("word(0, 4)", x.word(0, 4), 0);
        due("word(1, 4)", x.word(1, 4), 0);
        due("word(2, 4)", x.word(2, 4), 1);
        due("looks", x.count(5), 32);
    }

    void promise06IsAnActionUnlessRefused() {
        SlotMaps x = after("t316;");
        x.reserve(4);
        due("states", x.count(10), 2);
        x.reserve(4);
        x.reserve(5);
        due("states after refusals", x.count(10), 2);
    }

    void promise07NoSuchBlock() {
        for (int block : new int[] {-1, 1, 7, 8, LEAST, MOST}) {
            dueUnchanged(start("r4;"), "takeIn(" + block + ")", x -> x.takeIn(block), INVALID);
        }
        dueUnchanged(start(), "takeIn(0)", x -> x.takeIn(0), INVALID);
        due("8 blocks: takeIn(8)", after(EIGHT_BLOCKS).takeIn(8), INVALID);
        due("8 blocks: takeIn(-1)", after(EIGHT_BLOCKS).takeIn(-1), INVALID);
    }

    void promise07BlockThatIsGivenUp() {
        SlotMaps x = after("r4;r4;");
        x.giveUp(0);
        due("takeIn(0)", x.takeIn(0), INVALID);
        due("takeIn(1)", x.takeIn(1), 4);
    }

    void promise07FirstAndLastBlock() {
        SlotMaps x = after(EIGHT_BLOCKS);
        due("takeIn(0)", x.takeIn(0), 0);
        due("takeIn(7)", x.takeIn(7), 28);
    }

    void promise07NoneOfItsSlotsIsKept() {
        dueUnchanged(start("r4;b0;b0;b0;b0;"), "takeIn(0)", x -> x.takeIn(0), CAPACITY);
        dueUnchanged(start("r4;r4;b0;b0;b0;b0;"), "takeIn(0) beside a kept block", x -> x.takeIn(0), CAPACITY);
    }

    void promise07FirstToLastKeptSlotOfEachSize() {
        for (int size : SIZES) {
            SlotMaps x = after("t32;r" + size + ";");
            for (int slot = 32; slot < 32 + size; slot++) {
                due("takeIn(0)", x.takeIn(0), slot);
                due("it is used", x.slot(slot, 0), 1);
                due("its block", x.slot(slot, 1), 0);
            }
            due("takeIn(0) without a kept slot", x.takeIn(0), CAPACITY);
        }
    }

    void promise07FirstKeptSlotAgain() {
        SlotMaps x = after("r8;b0;b0;b0;b0;f1;f3;");
        due("takeIn(0)", x.takeIn(0), 1);
        due("takeIn(0)", x.takeIn(0), 3);
        due("takeIn(0)", x.takeIn(0), 4);
    }

    void promise07BitOfItsWordAlone() {
        SlotMaps x = after("r32;r4;d0;d1;d2;");
        x.takeIn(0);
        due("word(0, 4)", x.word(0, 4), 1);
        due("word(1, 4)", x.word(1, 4), 1);
        x.takeIn(1);
        due("word(1, 4)", x.word(1, 4), 0);
        due("word(2, 4)", x.word(2, 4), 1);
        due("looks", x.count(5), 0);
    }

    void promise07IsAnActionUnlessRefused() {
        SlotMaps x = after("r4;b0;b0;b0;");
        x.takeIn(0);
        due("states", x.count(10), 2);
        x.takeIn(0);
        x.takeIn(1);
        due("states after refusals", x.count(10), 2);
    }

    void promise08NoSuchBlock() {
        for (int block : new int[] {-1, 1, 7, 8, LEAST, MOST}) {
            dueUnchanged(start("r4;"), "giveUp(" + block + ")", x -> x.giveUp(block), INVALID);
        }
        dueUnchanged(start(), "giveUp(0)", x -> x.giveUp(0), INVALID);
        due("8 blocks: giveUp(8)", after(EIGHT_BLOCKS).giveUp(8), INVALID);
        due("8 blocks: giveUp(-1)", after(EIGHT_BLOCKS).giveUp(-1), INVALID);
    }

    void promise08BlockThatIsGivenUp() {
        SlotMaps x = after("r4;");
        due("giveUp(0)", x.giveUp(0), 4);
        due("giveUp(0) again", x.giveUp(0), INVALID);
        due("blocks", x.count(4), 0);
        due("states", x.count(10), 2);
    }

    void promise08AllItsSlotsAreKept() {
        for (int size : SIZES) {
            SlotMaps x = after("r" + size + ";");
            due("giveUp(0)", x.giveUp(0), size);
            due("free", x.count(0), 320);
            due("its last slot", x.slot(size - 1, 1), NONE);
        }
    }

    void promise08OneOfItsSlotsIsKept() {
        SlotMaps x = after("r4;b0;b0;b0;");
        due("giveUp(0)", x.giveUp(0), 1);
        due("the first slot", x.slot(0, 0), 1);
        due("the last slot", x.slot(3, 0), 0);
        SlotMaps y = after("r4;b0;b0;b0;b0;f0;");
        due("giveUp(0) with the first kept", y.giveUp(0), 1);
        due("the first slot", y.slot(0, 0), 0);
    }

    void promise08NoneOfItsSlotsIsKept() {
        SlotMaps x = after("r4;b0;b0;b0;b0;");
        due("giveUp(0)", x.giveUp(0), 0);
        due("used", x.count(1), 4);
        due("blocks", x.count(4), 0);
        due("block(0, 0)", x.block(0, 0), NONE);
        due("states", x.count(10), 2);
    }

    void promise08UsedSlotsStayUsedAndBelongToNoBlock() {
        SlotMaps x = after("r4;b0;b0;");
        due("giveUp(0)", x.giveUp(0), 2);
        for (int slot = 0; slot < 4; slot++) {
            due("slot(" + slot + ", 0)", x.slot(slot, 0), slot < 2 ? 1 : 0);
            due("slot(" + slot + ", 1)", x.slot(slot, 1), NONE);
        }
        due("giveBack(0, 3)", x.giveBack(0, 3), 2);
        due("lazy", x.count(2), 2);
    }

    void promise08FirstAndLastBlock() {
        SlotMaps x = after(EIGHT_BLOCKS);
        due("giveUp(7)", x.giveUp(7), 4);
        due("giveUp(0)", x.giveUp(0), 4);
        due("blocks", x.count(4), 6);
        due("block(1, 0)", x.block(1, 0), 4);
        due("block(6, 0)", x.block(6, 0), 24);
        due("kept", x.word(0, 3), 24);
        due("slot(3, 0)", x.slot(3, 0), 0);
        due("slot(4, 0)", x.slot(4, 0), 3);
        due("slot(27, 0)", x.slot(27, 0), 3);
        due("slot(28, 0)", x.slot(28, 0), 0);
    }

    void promise08BitOfItsWordAlone() {
        SlotMaps x = after("r32;r32;d1;d2;");
        due("giveUp(0)", x.giveUp(0), 32);
        due("word(0, 4)", x.word(0, 4), 0);
        due("word(1, 4)", x.word(1, 4), 0);
        due("word(1, 5)", x.word(1, 5), 1);
        due("word(2, 4)", x.word(2, 4), 1);
        due("looks", x.count(5), 0);
    }

    void promise08NoSlotChangesAndSoNoBit() {
        SlotMaps x = after("r4;b0;b0;b0;b0;d0;");
        due("giveUp(0)", x.giveUp(0), 0);
        due("word(0, 4)", x.word(0, 4), 1);
    }

    void promise08IsAnActionUnlessRefused() {
        SlotMaps x = after("r4;r4;");
        x.giveUp(1);
        due("states", x.count(10), 2);
        x.giveUp(1);
        x.giveUp(8);
        due("states after refusals", x.count(10), 2);
    }
}
