import java.util.function.ToIntFunction;

/** The boundary cases of the promises 9 to 11: damage, repair, undo. */
public final class SummariesBoundariesTest extends MapChecks {
    public static void main(String[] args) throws ReflectiveOperationException {
        new SummariesBoundariesTest().runPromises(9, 11);
    }

    void promise09NoSuchWord() {
        for (int word : new int[] {-1, 10, 32, LEAST, MOST}) {
            dueUnchanged(start("t40;", "d1;"), "damage(" + word + ")", x -> x.damage(word), INVALID);
        }
    }

    void promise09FirstToLastWord() {
        SlotMaps x = new SlotMaps();
        for (int word = 0; word < 10; word++) {
            due("damage(" + word + ")", x.damage(word), 1);
            for (int other = 0; other < 10; other++) {
                due("word(" + other + ", 4)", x.word(other, 4), other <= word ? 1 : 0);
            }
        }
    }

    void promise09BitThen() {
        SlotMaps x = after("t32;");
        due("damage(0) of a 1", x.damage(0), 0);
        due("damage(0) of a 0", x.damage(0), 1);
        due("damage(1) of a 0", x.damage(1), 1);
        due("damage(1) of a 1", x.damage(1), 0);
        due("audit(0)", x.audit(0), 0);
        due("states", x.count(10), 5);
    }

    void promise09ChangesNoSlotAndTakesNoLook() {
        SlotMaps x = after("t40;r4;f0;");
        for (int word = 0; word < 10; word++) {
            x.damage(word);
        }
        int[] counts = {276, 39, 1, 4, 1, 40};
        for (int what = 0; what < counts.length; what++) {
            due("count(" + what + ")", x.count(what), counts[what]);
        }
        due("full words", x.count(7), 1);
    }

    void promise09IsAnActionUnlessRefused() {
        SlotMaps x = new SlotMaps();
        x.damage(9);
        due("states", x.count(10), 1);
        x.damage(10);
        due("states after the refusal", x.count(10), 1);
    }

    void promise10NoBitIsWrong() {
        SlotMaps x = after("t40;");
        due("repair()", x.repair(), 0);
        due("is an action", x.count(10), 2);
        due("repair() of a new object", new SlotMaps().repair(), 0);
        due("repair() of a full map", after("t320;").repair(), 0);
    }

    void promise10AllBitsAreWrong() {
        due("each a 1", after(ALL_BITS).repair(), 10);
        due("each a 0", after("t320;", ALL_BITS).repair(), 10);
        SlotMaps x = after("t160;", ALL_BITS);
        due("five of each", x.repair(), 10);
        for (int word = 0; word < 10; word++) {
            due("word(" + word + ", 4)", x.word(word, 4), word < 5 ? 1 : 0);
        }
        due("audit(0)", x.audit(0), 0);
        due("repair() once more", x.repair(), 0);
    }

    void promise10FirstOrLastBitIsWrong() {
        for (int word : new int[] {0, 9}) {
            SlotMaps x = after("t160;d" + word + ";");
            due("repair()", x.repair(), 1);
            due("word(" + word + ", 4)", x.word(word, 4), word == 0 ? 1 : 0);
            due("bits", x.count(6), 5);
        }
    }

    void promise10LazyAndKeptSlotsMakeAWordFull() {
        SlotMaps x = after("t32;f0-31;r32;d0;d1;");
        due("repair()", x.repair(), 2);
        due("word(0, 4)", x.word(0, 4), 1);
        due("word(1, 4)", x.word(1, 4), 1);
    }

    void promise10TakesNoLookAndChangesNoSlot() {
        SlotMaps x = after("t40;f0;", ALL_BITS);
        x.repair();
        int[] counts = {280, 39, 1, 0, 0, 40};
        for (int what = 0; what < counts.length; what++) {
            due("count(" + what + ")", x.count(what), counts[what]);
        }
    }

    void promise11EmptyHistory() {
        dueUnchanged(start(), "undo()", SlotMaps::undo, STATE);
        SlotMaps x = after("t5;");
        x.undo();
        due("undo() once more", x.undo(), STATE);
        due("used", x.count(1), 0);
        due("states", x.count(10), 0);
    }

    void promise11OneState() {
        SlotMaps x = after("t5;");
        due("undo()", x.undo(), 0);
        due("used", x.count(1), 0);
        due("looks", x.count(5), 0);
        due("word(0, 4)", x.word(0, 4), 0);
    }

    void promise11FiveStates() {
        SlotMaps x = takes(5);
        due("states", x.count(10), 5);
        for (int left = 4; left >= 0; left--) {
            due("undo()", x.undo(), left);
            due("used", x.count(1), left);
        }
        due("undo() of nothing", x.undo(), STATE);
    }

    void promise11SixthStateDropsTheOldest() {
        for (int actions = 6; actions <= 20; actions++) {
            SlotMaps x = takes(actions);
            due("states", x.count(10), 5);
            for (int left = 4; left >= 0; left--) {
                due("undo()", x.undo(), left);
                due("used", x.count(1), actions - 5 + left);
            }
            due("undo() of nothing", x.undo(), STATE);
            due("used still", x.count(1), actions - 5);
        }
    }

    private static SlotMaps takes(int many) {
        SlotMaps x = new SlotMaps();
        for (int i = 0; i < many; i++) {
            x.take();
        }
        return x;
    }

    void promise11IsNoAction() {
        SlotMaps x = takes(3);
        due("undo()", x.undo(), 2);
        due("states", x.count(10), 2);
        due("undo() does not bring it back", x.undo(), 1);
        due("used", x.count(1), 1);
    }

    void promise11ActionsAfterUndo() {
        SlotMaps x = takes(7);
        x.undo();
        x.undo();
        due("states", x.count(10), 3);
        x.damage(9);
        x.take();
        x.take();
        due("states, the oldest dropped", x.count(10), 5);
        due("undo()", x.undo(), 4);
        due("undo()", x.undo(), 3);
        due("undo()", x.undo(), 2);
        due("word(9, 4)", x.word(9, 4), 0);
        due("used", x.count(1), 5);
        due("undo()", x.undo(), 1);
        due("undo()", x.undo(), 0);
        due("used", x.count(1), 3);
        due("undo() of nothing", x.undo(), STATE);
    }

    /** Each on an object of its own, so that no state of an earlier action can stand in for its own. */
    void promise11StateBeforeEachActionIsRestored() {
        dueUndone("take()", SlotMaps::take);
        dueUndone("takeRun(64)", x -> x.takeRun(64));
        dueUndone("giveBack(0, 319)", x -> x.giveBack(0, 319));
        dueUndone("clear(10)", x -> x.clear(10));
        dueUndone("reserve(32)", x -> x.reserve(32));
        dueUndone("takeIn(0)", x -> x.takeIn(0));
        dueUndone("giveUp(0)", x -> x.giveUp(0));
        dueUndone("damage(9)", x -> x.damage(9));
        dueUndone("repair()", SlotMaps::repair);
        dueUndone("run()", SlotMaps::run);
    }

    private void dueUndone(String call, ToIntFunction<SlotMaps> action) {
        String[] programs = start("t31;d9;f3;", "r8;r4;b0;d5;");
        SlotMaps x = after(programs);
        due(call + " is successful", action.applyAsInt(x) >= 0 ? 1 : 0, 1);
        due("states after " + call, x.count(10), 3);
        due("undo() of " + call, x.undo(), 2);
        dueSame("undo() of " + call, x, after(programs));
    }

    void promise11PlaceOfABlockIsRestored() {
        SlotMaps x = after("t5;r8;r4;");
        x.giveUp(0);
        due("reserve(16)", x.reserve(16), 0);
        due("its first slot", x.block(0, 0), 32);
        due("undo() of it", x.undo(), 2);
        due("block(0, 0)", x.block(0, 0), NONE);
        due("undo() of giveUp(0)", x.undo(), 1);
        due("block(0, 0)", x.block(0, 0), 8);
        due("block(0, 1)", x.block(0, 1), 8);
        due("slot(15, 1)", x.slot(15, 1), 0);
    }

    void promise11LooksAreRestored() {
        SlotMaps x = takes(2);
        x.takeRun(64);
        due("looks", x.count(5), 5);
        x.undo();
        due("looks then", x.count(5), 2);
    }

    void promise11TextIsNotRestored() {
        SlotMaps x = new SlotMaps();
        text(x, "t");
        x.take();
        x.append(';');
        due("undo()", x.undo(), 0);
        due("length", x.count(11), 2);
        due("run()", x.run(), 1);
        x.clearText();
        due("undo()", x.undo(), 0);
        due("length", x.count(11), 0);
    }

    void promise11TextCallsAndLooksAreNotRecorded() {
        SlotMaps x = takes(1);
        x.append('t');
        x.clearText();
        x.count(0);
        x.slot(0, 0);
        x.word(0, 0);
        x.block(0, 0);
        x.audit(0);
        x.next(0);
        x.runAt(1);
        x.placeFor(4);
        x.takes();
        due("states", x.count(10), 1);
    }

    void promise11ActionsThatChangeNothingAreRecorded() {
        SlotMaps x = takes(1);
        x.repair();
        x.clear(1);
        x.run();
        due("states", x.count(10), 4);
        due("undo()", x.undo(), 3);
        due("undo()", x.undo(), 2);
        due("undo()", x.undo(), 1);
        due("used", x.count(1), 1);
        due("undo()", x.undo(), 0);
        due("used", x.count(1), 0);
    }

    void promise11RefusedActionsAreNotRecorded() {
        String[] programs = start("t319;", "d0;", "a;", "d0;", "a;", "t;");
        dueNotRecorded(programs, "take()", SlotMaps::take);
        dueNotRecorded(programs, "takeRun(1)", x -> x.takeRun(1));
        dueNotRecorded(programs, "giveBack(1, 0)", x -> x.giveBack(1, 0));
        dueNotRecorded(programs, "clear(0)", x -> x.clear(0));
        dueNotRecorded(programs, "reserve(4)", x -> x.reserve(4));
        dueNotRecorded(programs, "takeIn(0)", x -> x.takeIn(0));
        dueNotRecorded(programs, "giveUp(0)", x -> x.giveUp(0));
        dueNotRecorded(programs, "damage(10)", x -> x.damage(10));
        dueNotRecorded(programs, "run()", x -> program(x, "a;a"));
    }

    /** With a full history a state too many would drop the oldest one. */
    private void dueNotRecorded(String[] programs, String call, ToIntFunction<SlotMaps> action) {
        SlotMaps x = after(programs);
        due(call + " is refused", action.applyAsInt(x) < 0 ? 1 : 0, 1);
        for (int left = 4; left >= 0; left--) {
            due(call + ", then undo()", x.undo(), left);
        }
        due(call + ", then the oldest state", x.count(1), 319);
    }
}
