/** The boundary cases of the promises 1 to 5: a new object, take, takeRun, giveBack, clear. */
public final class SlotsBoundariesTest extends MapChecks {
    private static final String[] EMPTY = start();
    private static final String[] ALL_USED = start("t;", "t319;");

    public static void main(String[] args) throws ReflectiveOperationException {
        new SlotsBoundariesTest().runPromises(1, 5);
    }

    private void dueKinds(SlotMaps x, int from, int to, int kind) {
        for (int slot = from; slot <= to; slot++) {
            due("slot(" + slot + ", 0)", x.slot(slot, 0), kind);
        }
    }

    void promise01AllSlotsAreFree() {
        SlotMaps x = new SlotMaps();
        dueKinds(x, 0, 319, 0);
        due("free", x.count(0), 320);
        due("used", x.count(1), 0);
        due("lazy", x.count(2), 0);
        due("kept", x.count(3), 0);
        due("runs", x.count(8), 1);
        due("the longest", x.count(9), 320);
    }

    void promise01NoBlocks() {
        SlotMaps x = new SlotMaps();
        due("blocks", x.count(4), 0);
        for (int block = 0; block < 8; block++) {
            due("block(" + block + ", 0)", x.block(block, 0), NONE);
        }
        for (int slot = 0; slot < 320; slot++) {
            due("slot(" + slot + ", 1)", x.slot(slot, 1), NONE);
        }
    }

    void promise01NoLooks() {
        due("looks", new SlotMaps().count(5), 0);
    }

    void promise01AllSummaryBitsAre0() {
        SlotMaps x = new SlotMaps();
        for (int word = 0; word < 10; word++) {
            due("word(" + word + ", 4)", x.word(word, 4), 0);
        }
        due("bits", x.count(6), 0);
        due("audit(0)", x.audit(0), 0);
    }

    void promise01EmptyText() {
        due("length", new SlotMaps().count(11), 0);
        due("clearText()", new SlotMaps().clearText(), 0);
        due("run()", new SlotMaps().run(), 0);
    }

    void promise01EmptyHistory() {
        due("states", new SlotMaps().count(10), 0);
        due("undo()", new SlotMaps().undo(), STATE);
    }

    void promise01EachObjectHasItsOwnMap() {
        SlotMaps before = new SlotMaps();
        SlotMaps x = after("t40;r8;d9;");
        dueSame("made before", before, new SlotMaps());
        due("used", x.count(1), 40);
    }

    void promise02FirstSlot() {
        SlotMaps x = new SlotMaps();
        due("take()", x.take(), 0);
        due("it is used", x.slot(0, 0), 1);
        due("the next is free", x.slot(1, 0), 0);
        due("looks", x.count(5), 1);
    }

    void promise02LastSlot() {
        SlotMaps x = after("t319;");
        due("take()", x.take(), 319);
        due("free", x.count(0), 0);
        due("looks", x.count(5), 320);
    }

    void promise02FirstAndLastSlotOfAWord() {
        SlotMaps x = after("t64;f0;f31-32;f63;c2;");
        due("the first of word 0", x.take(), 0);
        due("the last of word 0", x.take(), 31);
        due("the first of word 1", x.take(), 32);
        due("the last of word 1", x.take(), 63);
        due("the first of word 2", x.take(), 64);
    }

    void promise02SmallestFreeSlotOfAWord() {
        SlotMaps x = after("t32;f30;f5;f17;c1;");
        due("take()", x.take(), 5);
        due("take()", x.take(), 17);
        due("take()", x.take(), 30);
    }

    void promise02WordWithBit1IsPassedOverWithoutALook() {
        SlotMaps x = after("d0;");
        due("take()", x.take(), 32);
        due("looks", x.count(5), 1);
        due("the bit stays 1", x.word(0, 4), 1);
        SlotMaps y = after("d0;d1;d2;d3;d4;d5;d6;d7;d8;");
        due("take() in the last word", y.take(), 288);
        due("looks", y.count(5), 1);
        due("bits", y.count(6), 9);
    }

    void promise02FullWordWithBit0IsLookedAtAndItsBitBecomes1() {
        SlotMaps x = after("t64;d0;d1;");
        due("take()", x.take(), 64);
        due("looks", x.count(5), 64 + 3);
        due("word(0, 4)", x.word(0, 4), 1);
        due("word(1, 4)", x.word(1, 4), 1);
        due("word(2, 4)", x.word(2, 4), 0);
    }

    void promise02WordsBehindTheSlotAreNotLookedAt() {
        SlotMaps x = after("t96;d1;d2;f0;c1;");
        due("take()", x.take(), 0);
        due("looks", x.count(5), 96 + 1);
        due("word(1, 4)", x.word(1, 4), 0);
        due("word(2, 4)", x.word(2, 4), 0);
    }

    void promise02BitIsSetByTheLastFreeSlotOfAWord() {
        SlotMaps x = after("t30;");
        due("take()", x.take(), 30);
        due("one is free", x.word(0, 4), 0);
        due("take()", x.take(), 31);
        due("none is free", x.word(0, 4), 1);
        due("the next word", x.word(1, 4), 0);
    }

    void promise02LazySlotsStayWhileAFreeOneIsFound() {
        SlotMaps x = after("t319;f0-9;");
        due("take() of the last free slot", x.take(), 319);
        due("lazy", x.count(2), 10);
        due("take()", x.take(), 0);
        due("lazy", x.count(2), 0);
    }

    void promise02AllLazySlotsAreCleared() {
        SlotMaps x = after("t320;f0;f31-32;f319;");
        due("take()", x.take(), 0);
        due("lazy", x.count(2), 0);
        dueKinds(x, 31, 32, 0);
        dueKinds(x, 319, 319, 0);
        due("word(0, 4)", x.word(0, 4), 0);
        due("word(1, 4)", x.word(1, 4), 0);
        due("word(2, 4)", x.word(2, 4), 1);
        due("word(9, 4)", x.word(9, 4), 0);
        due("looks", x.count(5), 320 + 1);
    }

    void promise02OneLazySlotAtTheEnd() {
        SlotMaps x = after("t320;f319;");
        due("take()", x.take(), 319);
        due("word(9, 4)", x.word(9, 4), 1);
        due("looks", x.count(5), 320 + 1);
        due("take() then", x.take(), CAPACITY);
    }

    void promise02AllSlotsLazy() {
        SlotMaps x = after("t320;f0-319;");
        due("take()", x.take(), 0);
        due("free", x.count(0), 319);
        due("bits", x.count(6), 0);
    }

    void promise02WordIsLookedAtInBothGoes() {
        SlotMaps x = after("t320;f64;d2;d3;");
        due("take()", x.take(), 64);
        due("looks: words 2 and 3, then word 2", x.count(5), 320 + 3);
        due("word(3, 4)", x.word(3, 4), 1);
    }

    void promise02ClearingBringsAHiddenWordBack() {
        SlotMaps x = after("t320;f0-1;c1;f9;d0;");
        due("word(0, 4) before", x.word(0, 4), 1);
        due("take()", x.take(), 0);
        due("word(0, 4)", x.word(0, 4), 0);
        due("free", x.count(0), 2);
    }

    void promise02ClearingLeavesTheBitsOfOtherWords() {
        SlotMaps x = after("t320;f64-95;c1;f0;d2;");
        due("take()", x.take(), 0);
        due("word(2, 4) is as wrong as before", x.word(2, 4), 1);
        due("take() does not find its slots", x.take(), CAPACITY);
    }

    void promise02ASlotBehindHiddenLazyOnesIsFoundFirst() {
        SlotMaps x = after("t300;f5;d0;");
        due("take()", x.take(), 300);
        due("lazy", x.count(2), 1);
    }

    void promise02RefusedIfAllSlotsAreUsed() {
        dueUnchanged(ALL_USED, "take()", SlotMaps::take, CAPACITY);
    }

    void promise02RefusedIfAllSlotsAreUsedOrKept() {
        dueUnchanged(start("r32;r16;r4;t268;"), "take()", SlotMaps::take, CAPACITY);
    }

    void promise02RefusedIfFreeSlotsAreInWordsPassedOver() {
        dueUnchanged(start("t320;", "f64-95;", "c1;", "d2;"), "take()", SlotMaps::take, CAPACITY);
        dueUnchanged(start(ALL_BITS), "take()", SlotMaps::take, CAPACITY);
    }

    void promise02RefusedTakesBackLooksAndBits() {
        String[] programs = start("t320;", "f64-95;c1;d2;d0;d4;d9;");
        dueUnchanged(programs, "take()", SlotMaps::take, CAPACITY);
        SlotMaps x = after(programs);
        x.take();
        due("looks", x.count(5), 320);
        due("word(0, 4)", x.word(0, 4), 0);
        due("word(9, 4)", x.word(9, 4), 0);
    }

    void promise02IsAnActionUnlessRefused() {
        SlotMaps x = after("t319;");
        x.take();
        due("states", x.count(10), 2);
        x.take();
        due("states after the refusal", x.count(10), 2);
    }

    void promise03ManyTooSmall() {
        dueUnchanged(start("t5;"), "takeRun(0)", x -> x.takeRun(0), INVALID);
        dueUnchanged(start("t5;"), "takeRun(-1)", x -> x.takeRun(-1), INVALID);
        dueUnchanged(start("t5;"), "takeRun(LEAST)", x -> x.takeRun(LEAST), INVALID);
    }

    void promise03ManyTooLarge() {
        dueUnchanged(start("t5;"), "takeRun(65)", x -> x.takeRun(65), INVALID);
        dueUnchanged(start("t5;"), "takeRun(MOST)", x -> x.takeRun(MOST), INVALID);
    }

    void promise03LeastMany() {
        SlotMaps x = after("t5;");
        due("takeRun(1)", x.takeRun(1), 5);
        dueKinds(x, 5, 5, 1);
        dueKinds(x, 6, 6, 0);
    }

    void promise03MostMany() {
        SlotMaps x = after("t5;");
        due("takeRun(64)", x.takeRun(64), 5);
        dueKinds(x, 5, 68, 1);
        dueKinds(x, 69, 69, 0);
        due("looks", x.count(5), 5 + 3);
    }

    void promise03OutOfRangeIsToldBeforeNoRun() {
        due("takeRun(0)", after("t320;").takeRun(0), INVALID);
        due("takeRun(65)", after("t320;").takeRun(65), INVALID);
    }

    void promise03NoFreeSlot() {
        dueUnchanged(ALL_USED, "takeRun(1)", x -> x.takeRun(1), CAPACITY);
        dueUnchanged(ALL_USED, "takeRun(64)", x -> x.takeRun(64), CAPACITY);
    }

    void promise03EachRowIsOneTooShort() {
        String[] programs = start("t320;", "f0-2;f10-11;f30-32;f317-319;", "c10;");
        dueUnchanged(programs, "takeRun(4)", x -> x.takeRun(4), CAPACITY);
        due("takeRun(3)", after(programs).takeRun(3), 0);
    }

    void promise03FirstRowThatIsLongEnough() {
        String[] programs = start("t320;", "f3-4;f10-14;f40-42;f60-69;", "c10;");
        due("takeRun(1)", after(programs).takeRun(1), 3);
        due("takeRun(2)", after(programs).takeRun(2), 3);
        due("takeRun(3)", after(programs).takeRun(3), 10);
        due("takeRun(5)", after(programs).takeRun(5), 10);
        due("takeRun(6)", after(programs).takeRun(6), 60);
        due("takeRun(10)", after(programs).takeRun(10), 60);
        due("takeRun(11)", after(programs).takeRun(11), CAPACITY);
    }

    void promise03FromWordToWord() {
        SlotMaps x = after("t320;f31-32;c2;");
        due("takeRun(2)", x.takeRun(2), 31);
        due("looks", x.count(5), 320 + 2);
        due("word(0, 4)", x.word(0, 4), 1);
        due("word(1, 4)", x.word(1, 4), 1);
        SlotMaps y = after("t320;f31-94;c3;");
        due("takeRun(64)", y.takeRun(64), 31);
        due("free", y.count(0), 0);
        due("bits", y.count(6), 10);
        due("looks", y.count(5), 320 + 3);
    }

    void promise03UpToTheLastSlot() {
        SlotMaps x = after("t256;");
        due("takeRun(64)", x.takeRun(64), 256);
        dueKinds(x, 319, 319, 1);
        due("looks", x.count(5), 256 + 10);
        dueUnchanged(start("t257;"), "takeRun(64)", y -> y.takeRun(64), CAPACITY);
    }

    void promise03NotFromTheLastSlotToTheFirst() {
        dueUnchanged(start("t320;f0;f319;c10;"), "takeRun(2)", x -> x.takeRun(2), CAPACITY);
    }

    void promise03LooksUpToTheWordInWhichTheRunEnds() {
        int[][] dues = {{0, 32, 1}, {0, 33, 2}, {31, 1, 1}, {31, 2, 2}, {32, 1, 2}, {32, 32, 2}, {32, 33, 3},
                {287, 1, 9}, {287, 2, 10}, {288, 32, 10}, {319, 1, 10}};
        for (int[] due : dues) {
            SlotMaps x = due[0] == 0 ? new SlotMaps() : after("t" + due[0] + ";");
            due("takeRun(" + due[1] + ")", x.takeRun(due[1]), due[0]);
            due("looks from " + due[0] + " by " + due[1], x.count(5), due[0] + due[2]);
        }
    }

    void promise03SummaryBitsDoNotMatter() {
        SlotMaps x = after(ALL_BITS);
        due("takeRun(64)", x.takeRun(64), 0);
        due("looks", x.count(5), 2);
        due("bits", x.count(6), 10);
    }

    void promise03BitsOfTheWordsOfTheRunAlone() {
        SlotMaps x = after("t32;d0;d1;d2;d3;");
        due("takeRun(40)", x.takeRun(40), 32);
        due("word(0, 4), looked at", x.word(0, 4), 0);
        due("word(1, 4), full", x.word(1, 4), 1);
        due("word(2, 4), in part", x.word(2, 4), 0);
        due("word(3, 4), behind", x.word(3, 4), 1);
    }

    void promise03LazyAndKeptSlotsAreNotFree() {
        dueUnchanged(start("r32;t288;", "f40-49;"), "takeRun(1)", x -> x.takeRun(1), CAPACITY);
        due("a run ends in front of a lazy slot", after("t10;f5-8;").takeRun(2), 10);
        due("a run ends in front of a kept slot", after("t2;r4;").takeRun(3), 8);
    }

    void promise03IsAnActionUnlessRefused() {
        SlotMaps x = after("t256;");
        x.takeRun(64);
        due("states", x.count(10), 2);
        x.takeRun(1);
        x.takeRun(65);
        due("states after refusals", x.count(10), 2);
    }

    void promise04FromTooSmall() {
        dueUnchanged(ALL_USED, "giveBack(-1, 5)", x -> x.giveBack(-1, 5), INVALID);
        dueUnchanged(ALL_USED, "giveBack(-1, -1)", x -> x.giveBack(-1, -1), INVALID);
        dueUnchanged(ALL_USED, "giveBack(LEAST, 319)", x -> x.giveBack(LEAST, 319), INVALID);
    }

    void promise04FromTooLarge() {
        dueUnchanged(ALL_USED, "giveBack(320, 320)", x -> x.giveBack(320, 320), INVALID);
        dueUnchanged(ALL_USED, "giveBack(MOST, MOST)", x -> x.giveBack(MOST, MOST), INVALID);
        dueUnchanged(ALL_USED, "giveBack(320, 319)", x -> x.giveBack(320, 319), INVALID);
    }

    void promise04ToTooLarge() {
        dueUnchanged(ALL_USED, "giveBack(0, 320)", x -> x.giveBack(0, 320), INVALID);
        dueUnchanged(ALL_USED, "giveBack(319, 320)", x -> x.giveBack(319, 320), INVALID);
        dueUnchanged(ALL_USED, "giveBack(0, MOST)", x -> x.giveBack(0, MOST), INVALID);
    }

    void promise04ToLessThanFrom() {
        dueUnchanged(ALL_USED, "giveBack(5, 4)", x -> x.giveBack(5, 4), INVALID);
        dueUnchanged(ALL_USED, "giveBack(319, 0)", x -> x.giveBack(319, 0), INVALID);
        dueUnchanged(ALL_USED, "giveBack(0, -1)", x -> x.giveBack(0, -1), INVALID);
        dueUnchanged(ALL_USED, "giveBack(0, LEAST)", x -> x.giveBack(0, LEAST), INVALID);
    }

    void promise04NoSuchSlotsIsToldBeforeNoneUsed() {
        due("giveBack(5, 4)", new SlotMaps().giveBack(5, 4), INVALID);
        due("giveBack(0, 320)", new SlotMaps().giveBack(0, 320), INVALID);
        due("giveBack(-1, 319)", new SlotMaps().giveBack(-1, 319), INVALID);
    }

    void promise04RangeOfOneSlot() {
        for (int slot : new int[] {0, 31, 32, 319}) {
            SlotMaps x = after("t320;");
            due("giveBack(" + slot + ", " + slot + ")", x.giveBack(slot, slot), 1);
            dueKinds(x, slot, slot, 2);
            due("lazy", x.count(2), 1);
        }
    }

    void promise04RangeOfAllSlots() {
        SlotMaps x = after("t320;");
        due("giveBack(0, 319)", x.giveBack(0, 319), 320);
        due("lazy", x.count(2), 320);
    }

    void promise04BothEndsBelongToTheRange() {
        SlotMaps x = after("t320;");
        due("giveBack(30, 65)", x.giveBack(30, 65), 36);
        dueKinds(x, 29, 29, 1);
        dueKinds(x, 30, 65, 2);
        dueKinds(x, 66, 66, 1);
        SlotMaps y = after("t320;");
        due("giveBack(32, 63)", y.giveBack(32, 63), 32);
        due("word(0, 2)", y.word(0, 2), 0);
        due("word(1, 2)", y.word(1, 2), 32);
        due("word(2, 2)", y.word(2, 2), 0);
    }

    void promise04NoneOfThemIsUsed() {
        dueUnchanged(EMPTY, "giveBack(0, 319)", x -> x.giveBack(0, 319), STATE);
        dueUnchanged(start("t9;f0-8;"), "giveBack(0, 319) of lazy slots", x -> x.giveBack(0, 319), STATE);
        dueUnchanged(start("r32;"), "giveBack(0, 31) of kept slots", x -> x.giveBack(0, 31), STATE);
        dueUnchanged(start("t9;", "f2-6;"), "giveBack(2, 6)", x -> x.giveBack(2, 6), STATE);
        dueUnchanged(start("t9;"), "giveBack(9, 319)", x -> x.giveBack(9, 319), STATE);
    }

    void promise04OneOfThemIsUsed() {
        due("the first of the range", after("t9;").giveBack(8, 319), 1);
        due("the last of the range", after("t9;f0-7;").giveBack(0, 8), 1);
        due("one among kept slots", after("r32;b0;").giveBack(0, 31), 1);
    }

    void promise04SlotsOfABlockAreKeptAndTheOthersLazy() {
        SlotMaps x = after("t4;r4;t4;b0;b0;b0;b0;");
        due("giveBack(3, 8)", x.giveBack(3, 8), 6);
        dueKinds(x, 2, 2, 1);
        dueKinds(x, 3, 3, 2);
        dueKinds(x, 4, 7, 3);
        dueKinds(x, 8, 8, 2);
        dueKinds(x, 9, 9, 1);
    }

    void promise04SlotsOfAWholeWordBlockAreKept() {
        SlotMaps x = after("t32;r32;b0;");
        due("giveBack(32, 32)", x.giveBack(32, 32), 1);
        dueKinds(x, 32, 63, 3);
    }

    void promise04BlocksOfOtherWordsDoNotMatter() {
        SlotMaps x = after("r4;t68;");
        due("giveBack(32, 67)", x.giveBack(32, 67), 36);
        dueKinds(x, 32, 67, 2);
    }

    void promise04SlotsOfABlockGivenUpAreLazy() {
        SlotMaps x = after("r4;b0;r8;");
        x.giveUp(0);
        due("another block has the number 0", x.reserve(4), 0);
        due("its place", x.block(0, 0), 4);
        due("giveBack(0, 0)", x.giveBack(0, 0), 1);
        dueKinds(x, 0, 0, 2);
    }

    void promise04FullWordsStayFull() {
        SlotMaps x = after("t320;");
        x.giveBack(0, 319);
        due("bits", x.count(6), 10);
        due("full words", x.count(7), 10);
        due("free", x.count(0), 0);
        due("looks", x.count(5), 320);
    }

    void promise04BitsOfTheWordsOfTheSlotsAlone() {
        SlotMaps x = after("t65;d0;d1;d2;d3;");
        due("giveBack(32, 319)", x.giveBack(32, 319), 33);
        due("word(0, 4), in front of the range", x.word(0, 4), 0);
        due("word(1, 4)", x.word(1, 4), 1);
        due("word(2, 4)", x.word(2, 4), 0);
        due("word(3, 4), in the range, without a used slot", x.word(3, 4), 1);
    }

    void promise04IsAnActionUnlessRefused() {
        SlotMaps x = after("t9;");
        x.giveBack(0, 8);
        due("states", x.count(10), 2);
        x.giveBack(0, 8);
        x.giveBack(8, 0);
        due("states after refusals", x.count(10), 2);
    }

    void promise05WordsTooFew() {
        String[] programs = start("t320;", "f0-99;");
        dueUnchanged(programs, "clear(0)", x -> x.clear(0), INVALID);
        dueUnchanged(programs, "clear(-1)", x -> x.clear(-1), INVALID);
        dueUnchanged(programs, "clear(LEAST)", x -> x.clear(LEAST), INVALID);
    }

    void promise05WordsTooMany() {
        String[] programs = start("t320;", "f0-99;");
        dueUnchanged(programs, "clear(11)", x -> x.clear(11), INVALID);
        dueUnchanged(programs, "clear(MOST)", x -> x.clear(MOST), INVALID);
        due("nothing lazy", new SlotMaps().clear(11), INVALID);
    }

    void promise05FewestWords() {
        SlotMaps x = after("t320;f0-319;");
        due("clear(1)", x.clear(1), 32);
        dueKinds(x, 31, 31, 0);
        dueKinds(x, 32, 32, 2);
        due("lazy", x.count(2), 288);
    }

    void promise05MostWords() {
        SlotMaps x = after("t320;f0-319;");
        due("clear(9)", after("t320;f0-319;").clear(9), 288);
        due("clear(10)", x.clear(10), 320);
        due("lazy", x.count(2), 0);
        due("bits", x.count(6), 0);
    }

    void promise05NothingLazyIsAnAction() {
        SlotMaps x = after("t9;r8;b0;");
        due("clear(10)", x.clear(10), 0);
        due("clear(1)", x.clear(1), 0);
        due("states", x.count(10), 3);
        due("used", x.count(1), 10);
        due("kept", x.count(3), 7);
    }

    void promise05FewerWordsHaveLazySlots() {
        SlotMaps x = after("t320;f40-41;f319;");
        due("clear(3)", x.clear(3), 3);
        due("lazy", x.count(2), 0);
        due("as many as have some", after("t320;f40-41;f319;").clear(2), 3);
    }

    void promise05WordsWithoutLazySlotsDoNotCount() {
        SlotMaps x = after("t320;f95;f319;");
        due("clear(1)", x.clear(1), 1);
        dueKinds(x, 95, 95, 0);
        dueKinds(x, 319, 319, 2);
        due("clear(1)", x.clear(1), 1);
        dueKinds(x, 319, 319, 0);
    }

    void promise05FirstAndLastSlotOfAWord() {
        SlotMaps x = after("t320;f0;f31-32;f63-64;");
        due("clear(1)", x.clear(1), 2);
        dueKinds(x, 0, 0, 0);
        dueKinds(x, 31, 31, 0);
        dueKinds(x, 32, 32, 2);
        due("clear(1)", x.clear(1), 2);
        dueKinds(x, 63, 63, 0);
        dueKinds(x, 64, 64, 2);
    }

    void promise05BitsOfTheClearedWordsAlone() {
        SlotMaps x = after("t128;f0;f64-65;f96;d0;d1;d2;d3;d9;");
        due("clear(2)", x.clear(2), 3);
        due("word(0, 4)", x.word(0, 4), 0);
        due("word(1, 4), without a lazy slot", x.word(1, 4), 0);
        due("word(1, 5)", x.word(1, 5), 1);
        due("word(2, 4)", x.word(2, 4), 0);
        due("word(3, 4), too many", x.word(3, 4), 0);
        due("word(3, 5)", x.word(3, 5), 1);
        due("word(9, 4)", x.word(9, 4), 1);
        SlotMaps y = after("t320;f0;d0;d0;c1;f9;d0;");
        due("a hidden word", y.word(0, 4), 1);
        due("clear(1)", y.clear(1), 1);
        due("its bit", y.word(0, 4), 0);
    }

    void promise05TakesNoLooks() {
        SlotMaps x = after("t320;f0-319;");
        x.clear(10);
        due("looks", x.count(5), 320);
    }
}
