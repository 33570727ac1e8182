/** The boundary cases of the promises 20 to 23: next, runAt, placeFor, takes. */
public final class ForecastsBoundariesTest extends MapChecks {
    public static void main(String[] args) throws ReflectiveOperationException {
        new ForecastsBoundariesTest().runPromises(20, 23);
    }

    /** What next() tells, and then that take() is so. */
    private void dueNext(String[] programs, int slot, int looks, int cleared) {
        String of = " after " + String.join(" ", programs);
        SlotMaps x = after(programs);
        due("next(0)" + of, x.next(0), slot);
        due("next(1)" + of, x.next(1), looks);
        due("next(2)" + of, x.next(2), cleared);
        int before = x.count(5);
        int lazy = x.count(2);
        due("take()" + of, x.take(), slot);
        due("looks" + of, x.count(5) - before, looks);
        due("cleared" + of, x.count(2) < lazy ? 1 : 0, cleared);
    }

    void promise20WhatOutOfRange() {
        for (int what : new int[] {-1, 3, LEAST, MOST}) {
            dueUnchanged(start("t5;"), "next(" + what + ")", x -> x.next(what), INVALID);
        }
    }

    void promise20OutOfRangeIsToldBeforeRefused() {
        due("next(-1)", after("t320;").next(-1), INVALID);
        due("next(3)", after("t320;").next(3), INVALID);
    }

    void promise20TakeWouldBeRefused() {
        for (int what = 0; what < 3; what++) {
            int asked = what;
            dueUnchanged(start("t;", "t319;"), "next(" + what + ")", x -> x.next(asked), NONE);
            dueUnchanged(start("r32;t288;"), "next(" + what + ")", x -> x.next(asked), NONE);
            dueUnchanged(start("t320;", "f64-95;c1;d2;d4;"), "next(" + what + ")", x -> x.next(asked), NONE);
            due("all words passed over: next(" + what + ")", after(ALL_BITS).next(what), NONE);
        }
    }

    void promise20FirstAndLastSlot() {
        dueNext(start(), 0, 1, 0);
        dueNext(start("t319;"), 319, 1, 0);
        dueNext(start("t31;"), 31, 1, 0);
        dueNext(start("t32;"), 32, 1, 0);
    }

    void promise20LooksAtFullWordsWithBit0() {
        dueNext(start("t64;d0;d1;"), 64, 3, 0);
        dueNext(start("t288;", "d0;d1;d2;d3;d4;d5;d6;d7;d8;"), 288, 10, 0);
        dueNext(start("d0;d1;d2;d3;d4;d5;d6;d7;d8;"), 288, 1, 0);
    }

    void promise20LazySlotsWouldBeCleared() {
        dueNext(start("t320;f319;"), 319, 1, 1);
        dueNext(start("t320;f0-319;"), 0, 1, 1);
        dueNext(start("t320;f64;d2;d3;"), 64, 3, 1);
        dueNext(start("t320;f319;", ALL_BITS), 319, 11, 1);
        dueNext(start("t320;f0-1;c1;f9;d0;"), 0, 1, 1);
    }

    void promise20LazySlotsWouldNotBeCleared() {
        dueNext(start("t319;f0-9;"), 319, 1, 0);
        dueNext(start("t5;f2;"), 5, 1, 0);
    }

    void promise20ChangesNothing() {
        String[] programs = start("t320;", "f64-70;f319;", "d0;d9;");
        dueUnchanged(programs, "next(0)", x -> x.next(0), 64);
        dueUnchanged(programs, "next(1)", x -> x.next(1), 3);
        dueUnchanged(programs, "next(2)", x -> x.next(2), 1);
    }

    void promise21ManyTooSmall() {
        for (int many : new int[] {0, -1, LEAST}) {
            dueUnchanged(start("t5;"), "runAt(" + many + ")", x -> x.runAt(many), INVALID);
        }
    }

    void promise21ManyTooLarge() {
        for (int many : new int[] {65, 320, MOST}) {
            dueUnchanged(start("t5;"), "runAt(" + many + ")", x -> x.runAt(many), INVALID);
        }
    }

    void promise21OutOfRangeIsToldBeforeNoRun() {
        due("runAt(0)", after("t320;").runAt(0), INVALID);
        due("runAt(65)", after("t320;").runAt(65), INVALID);
    }

    void promise21LeastAndMostMany() {
        dueUnchanged(start("t5;d0;"), "runAt(1)", x -> x.runAt(1), 5);
        dueUnchanged(start("t5;d0;"), "runAt(64)", x -> x.runAt(64), 5);
    }

    void promise21NoSuchRun() {
        dueUnchanged(start("t320;"), "runAt(1)", x -> x.runAt(1), NONE);
        dueUnchanged(start("t320;f0-99;"), "runAt(1) of lazy slots", x -> x.runAt(1), NONE);
        dueUnchanged(start("t257;"), "runAt(64)", x -> x.runAt(64), NONE);
        due("one is enough", after("t257;").runAt(63), 257);
        due("each row is too short", after("t320;f0-2;f10-11;f317-319;c10;").runAt(4), NONE);
        due("one row is as long", after("t320;f0-1;f10-11;f317-319;c10;").runAt(3), 317);
    }

    void promise21FirstAndLastSlot() {
        due("runAt(64)", new SlotMaps().runAt(64), 0);
        due("runAt(64) at the end", after("t256;").runAt(64), 256);
        due("runAt(1) at the end", after("t319;").runAt(1), 319);
        due("not from the last slot to the first", after("t320;f0;f319;c10;").runAt(2), NONE);
    }

    void promise21FromWordToWord() {
        due("runAt(2)", after("t320;f31-32;c2;").runAt(2), 31);
        due("runAt(64)", after("t320;f31-94;c3;").runAt(64), 31);
        due("runAt(64), one too few", after("t320;f31-93;c3;").runAt(64), NONE);
    }

    void promise21FirstRowThatIsLongEnough() {
        SlotMaps x = after("t320;f3-4;f10-14;f40-42;c10;");
        int[] dues = {3, 3, 10, 10, 10, NONE};
        for (int many = 1; many <= 6; many++) {
            due("runAt(" + many + ")", x.runAt(many), dues[many - 1]);
        }
    }

    void promise21SummaryBitsDoNotMatter() {
        due("runAt(64)", after(ALL_BITS).runAt(64), 0);
    }

    void promise22SizeIsNoneOfThese() {
        SlotMaps x = new SlotMaps();
        for (int size = -40; size <= 130; size++) {
            if (!isSize(size)) {
                due("placeFor(" + size + ")", x.placeFor(size), INVALID);
            }
        }
        due("placeFor(LEAST)", x.placeFor(LEAST), INVALID);
        due("placeFor(MOST)", x.placeFor(MOST), INVALID);
        dueUnchanged(start("t320;"), "placeFor(5) without a place", y -> y.placeFor(5), INVALID);
        dueUnchanged(start("t320;"), "placeFor(0) without a place", y -> y.placeFor(0), INVALID);
    }

    void promise22FirstAndLastPlace() {
        for (int size : SIZES) {
            int last = 320 - size;
            dueUnchanged(start(), "placeFor(" + size + ")", x -> x.placeFor(size), 0);
            dueUnchanged(start("t" + last + ";"), "placeFor(" + size + ")", x -> x.placeFor(size), last);
        }
    }

    void promise22NoPlace() {
        for (int size : SIZES) {
            String program = "t" + (321 - size) + ";";
            dueUnchanged(start(program), "placeFor(" + size + ")", x -> x.placeFor(size), NONE);
        }
        due("lazy slots are not free", after("t320;f0-319;").placeFor(4), NONE);
        due("kept slots are not free", after("r32;t288;").placeFor(4), NONE);
    }

    void promise22BeginsAtASlotDivisibleByItsSize() {
        due("placeFor(4)", after("t320;f1-6;c1;").placeFor(4), NONE);
        due("placeFor(4)", after("t320;f1-7;c1;").placeFor(4), 4);
        due("placeFor(8)", after("t320;f4-11;c1;").placeFor(8), NONE);
        due("placeFor(8)", after("t320;f4-15;c1;").placeFor(8), 8);
        due("placeFor(16)", after("t320;f8-23;c1;").placeFor(16), NONE);
        due("placeFor(16)", after("t320;f8-31;c1;").placeFor(16), 16);
        due("placeFor(32)", after("t320;f16-47;c2;").placeFor(32), NONE);
        due("placeFor(32)", after("t320;f16-63;c2;").placeFor(32), 32);
    }

    void promise22EightBlocksDoNotMatter() {
        for (int size : SIZES) {
            dueUnchanged(start(EIGHT_BLOCKS), "placeFor(" + size + ")", x -> x.placeFor(size), 32);
        }
    }

    void promise22SummaryBitsDoNotMatter() {
        due("placeFor(32)", after(ALL_BITS).placeFor(32), 0);
    }

    void promise23AllSlotsAreFree() {
        dueUnchanged(start(), "takes()", SlotMaps::takes, 320);
    }

    void promise23NoSlotIsFound() {
        dueUnchanged(start("t320;"), "takes()", SlotMaps::takes, 0);
        dueUnchanged(start("r32;t288;"), "takes()", SlotMaps::takes, 0);
        dueUnchanged(start(ALL_BITS), "takes()", SlotMaps::takes, 0);
        dueUnchanged(start("t320;f64-95;c1;d2;"), "takes()", SlotMaps::takes, 0);
    }

    void promise23OneSlotIsFound() {
        dueUnchanged(start("t319;"), "takes() of the last free slot", SlotMaps::takes, 1);
        dueUnchanged(start("t320;f0;"), "takes() of a lazy slot", SlotMaps::takes, 1);
        dueUnchanged(start("t320;f319;d9;d0;"), "takes() of a lazy slot", SlotMaps::takes, 1);
    }

    void promise23AllSlotsAreLazy() {
        dueUnchanged(start("t320;f0-319;"), "takes()", SlotMaps::takes, 320);
        dueUnchanged(start("t320;f0-319;", ALL_BITS), "takes()", SlotMaps::takes, 320);
    }

    void promise23KeptSlotsDoNotCount() {
        due("takes()", after("r32;r8;b0;f0;").takes(), 280);
    }

    void promise23FreeSlotsOfWordsPassedOverCountIfTheyAreClearedToo() {
        due("without a lazy slot", after("t5;d0;d3;").takes(), 256);
        due("a lazy slot in one of them", after("t5;f2;d0;d3;").takes(), 320 - 32 - 4);
        due("a lazy slot in another", after("t5;f2;d3;").takes(), 320 - 32 - 4);
    }

    void promise23FullWordsWithBit0DoNotCount() {
        due("takes()", after("t64;d0;d1;").takes(), 256);
    }

    /** As many calls of take() as told are not refused, and the next one is. */
    void promise23UntilTakeIsRefused() {
        for (String program : new String[] {"t250;f2-3;f35;d0;d1;d2;r16;", "t200;f64-95;c1;f0;d2;d5;d9;", "t320;f0-9;",
                "r32;r32;r32;t99;f100-109;d3;d9;", "t316;d9;", "t316;f288;d9;"}) {
            SlotMaps x = after(program);
            int takes = x.takes();
            for (int left = takes; left > 0; left--) {
                due("takes() after " + program, x.takes(), left);
                due("take() is not refused after " + program, x.take() >= 0 ? 1 : 0, 1);
            }
            due("takes() at the end of " + program, x.takes(), 0);
            due("take() at the end of " + program, x.take(), CAPACITY);
        }
    }
}
