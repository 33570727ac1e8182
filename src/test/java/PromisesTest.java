/** For each promise of the document: ordinary inputs, the edges that it names, and wrong inputs. */
public final class PromisesTest extends MapChecks {
    private static final int[] FAR = {Integer.MIN_VALUE, -1000000, -1, Integer.MAX_VALUE};

    public static void main(String[] args) {
        PromisesTest test = new PromisesTest();
        test.newObject();
        test.take();
        test.takeWithDamage();
        test.takeClears();
        test.takeRefused();
        test.takeRun();
        test.takeRunLooksAndBits();
        test.giveBack();
        test.giveBackInBlocks();
        test.clear();
        test.reserve();
        test.reservePlaces();
        test.takeIn();
        test.giveUp();
        test.damage();
        test.repair();
        test.undo();
        test.append();
        test.clearText();
        test.runCommands();
        test.runSigns();
        test.runRefused();
        test.runKeepsNothing();
        test.count();
        test.slot();
        test.word();
        test.block();
        test.audit();
        test.next();
        test.runAt();
        test.placeFor();
        test.takes();
        test.looksChangeNothing();
        test.end();
    }

    private void newObject() {
        SlotMaps x = new SlotMaps();
        int[] counts = {320, 0, 0, 0, 0, 0, 0, 0, 1, 320, 0, 0};
        for (int what = 0; what < counts.length; what++) {
            due("1: count(" + what + ")", x.count(what), counts[what]);
        }
        for (int word = 0; word < 10; word++) {
            due("1: word(" + word + ", 0)", x.word(word, 0), 32);
            due("1: word(" + word + ", 4)", x.word(word, 4), 0);
        }
        for (int slot = 0; slot < 320; slot += 29) {
            due("1: slot(" + slot + ", 0)", x.slot(slot, 0), 0);
            due("1: slot(" + slot + ", 1)", x.slot(slot, 1), NONE);
        }
        due("1: block(0, 0)", x.block(0, 0), NONE);
        due("1: undo()", x.undo(), STATE);
        due("1: run()", x.run(), 0);
    }

    private void take() {
        SlotMaps x = new SlotMaps();
        for (int slot = 0; slot < 320; slot++) {
            due("2: take()", x.take(), slot);
        }
        due("2: looks", x.count(5), 320);
        due("2: bits", x.count(6), 10);
        due("2: take() of the 321st", x.take(), CAPACITY);
        due("2: looks after the refusal", x.count(5), 320);
        due("2: history", x.count(10), 5);

        SlotMaps y = after("t3;f1;c1;");
        due("2: the freed slot", y.take(), 1);
        due("2: the next one", y.take(), 3);
    }

    private void takeWithDamage() {
        SlotMaps x = after("d0;");
        due("2: take() passes over", x.take(), 32);
        due("2: one look", x.count(5), 1);
        due("2: the bit stays", x.word(0, 4), 1);

        SlotMaps y = after("t64;d0;d1;");
        due("2: looks so far", y.count(5), 64);
        due("2: take() looks at full words", y.take(), 64);
        due("2: three looks", y.count(5), 67);
        due("2: the bit becomes 1", y.word(0, 4), 1);
        due("2: and the other", y.word(1, 4), 1);

        SlotMaps z = after("t31;");
        due("2: the last of a word", z.take(), 31);
        due("2: its bit", z.word(0, 4), 1);
        due("2: the next word", z.take(), 32);
    }

    private void takeClears() {
        SlotMaps x = after("t320;f40;f7-9;d5;");
        due("2: next(2)", x.next(2), 1);
        due("2: take() clears", x.take(), 7);
        due("2: all of them", x.count(2), 0);
        due("2: free", x.count(0), 3);
        due("2: the bit of word 0", x.word(0, 4), 0);
        due("2: the bit of word 1", x.word(1, 4), 0);
        due("2: looks: word 5, then word 0", x.count(5), 322);
        due("2: the bit of word 5", x.word(5, 4), 1);

        SlotMaps y = after("t320;f40;d1;");
        due("2: giveBack keeps the bit right, damage makes it 0", y.word(1, 4), 0);
        due("2: take() in the word with lazy slots", y.take(), 40);
        due("2: looks: word 1 twice", y.count(5), 322);

        SlotMaps z = after("t320;f64-95;c1;f0;d2;");
        due("2: take() in front of a damaged word", z.take(), 0);
        due("2: a free word is passed over again", z.word(2, 0), 32);
        due("2: its bit stays wrong", z.word(2, 4), 1);
        due("2: then nothing is found", z.take(), CAPACITY);

        SlotMaps w = after("t300;f10;");
        due("2: no clearing while slots are free", w.take(), 300);
        due("2: still lazy", w.count(2), 1);
    }

    private void takeRefused() {
        SlotMaps x = after("t320;f64-95;c1;d2;d4;");
        due("2: refused though some are free", x.take(), CAPACITY);
        due("2: free", x.count(0), 32);
        due("2: looks", x.count(5), 320);
        due("2: the bit of word 4 stays 0", x.word(4, 4), 0);
        due("2: history", x.count(10), 1);
        due("2: next(0)", x.next(0), NONE);
        due("2: repair()", x.repair(), 2);
        due("2: take() after it", x.take(), 64);
    }

    private void takeRun() {
        for (int many : new int[] {0, 65, -64, Integer.MIN_VALUE, Integer.MAX_VALUE}) {
            due("3: takeRun(" + many + ")", new SlotMaps().takeRun(many), INVALID);
        }
        SlotMaps x = new SlotMaps();
        due("3: takeRun(1)", x.takeRun(1), 0);
        due("3: takeRun(64)", x.takeRun(64), 1);
        due("3: slot(64, 0)", x.slot(64, 0), 1);
        due("3: slot(65, 0)", x.slot(65, 0), 0);
        due("3: used", x.count(1), 65);
        due("3: history", x.count(10), 2);

        SlotMaps y = after("t320;f10-12;f30-33;f100-104;c10;");
        due("3: takeRun(4) from word to word", y.takeRun(4), 30);
        due("3: takeRun(3)", y.takeRun(3), 10);
        due("3: takeRun(6)", y.takeRun(6), CAPACITY);
        due("3: takeRun(5)", y.takeRun(5), 100);
        due("3: takeRun(1)", y.takeRun(1), CAPACITY);

        SlotMaps z = after("t320;f0-99;");
        due("3: lazy slots are not free", z.takeRun(1), CAPACITY);
        due("3: and stay lazy", z.count(2), 100);
        due("3: the end of the map", after("t256;").takeRun(64), 256);
        due("3: too few at the end", after("t257;").takeRun(64), CAPACITY);
    }

    private void takeRunLooksAndBits() {
        SlotMaps x = new SlotMaps();
        x.takeRun(32);
        due("3: one look", x.count(5), 1);
        due("3: the bit", x.word(0, 4), 1);
        x.takeRun(64);
        due("3: three more", x.count(5), 4);
        due("3: takeRun(33)", x.takeRun(33), 96);
        due("3: five more", x.count(5), 9);

        SlotMaps y = after("d0;d9;d1;");
        due("3: summary bits do not matter", y.takeRun(40), 0);
        due("3: two looks", y.count(5), 2);
        due("3: the bit of word 0 is set right", y.word(0, 4), 1);
        due("3: the bit of word 1 is set right", y.word(1, 4), 0);
        due("3: the bit of word 9 is not", y.word(9, 4), 1);

        SlotMaps z = after("t40;d0;");
        z.takeRun(10);
        due("3: a word that is only looked at", z.word(0, 4), 0);
        due("3: looks", z.count(5), 42);

        SlotMaps w = after("t320;");
        w.takeRun(1);
        due("3: no looks if refused", w.count(5), 320);
        due("3: no state if refused", w.count(10), 1);
    }

    private void giveBack() {
        SlotMaps x = after("t50;");
        for (int far : FAR) {
            due("4: giveBack(" + far + ", 5)", x.giveBack(far, 5), INVALID);
            due("4: giveBack(5, " + far + ")", x.giveBack(5, far), INVALID);
        }
        due("4: giveBack(5, 4)", x.giveBack(5, 4), INVALID);
        due("4: giveBack(0, 320)", x.giveBack(0, 320), INVALID);
        due("4: giveBack(320, 320)", x.giveBack(320, 320), INVALID);
        due("4: giveBack(50, 319)", x.giveBack(50, 319), STATE);
        due("4: giveBack(60, 50)", x.giveBack(60, 50), INVALID);
        due("4: history", x.count(10), 1);
        due("4: giveBack(49, 319)", x.giveBack(49, 319), 1);
        due("4: giveBack(49, 49)", x.giveBack(49, 49), STATE);
        due("4: giveBack(0, 0)", x.giveBack(0, 0), 1);
        due("4: giveBack(0, 319)", x.giveBack(0, 319), 48);
        due("4: lazy", x.count(2), 50);
        due("4: history", x.count(10), 4);

        SlotMaps y = after("t40;f30-33;");
        due("4: slot(29, 0)", y.slot(29, 0), 1);
        due("4: slot(30, 0)", y.slot(30, 0), 2);
        due("4: slot(33, 0)", y.slot(33, 0), 2);
        due("4: slot(34, 0)", y.slot(34, 0), 1);
        due("4: full with lazy slots", y.word(0, 5), 1);

        SlotMaps z = after("t64;d0;d1;d3;f5;");
        due("4: the bit of the word is set right", z.word(0, 4), 1);
        due("4: the bit of another is not", z.word(1, 4), 0);
        due("4: nor of a third", z.word(3, 4), 1);
    }

    private void giveBackInBlocks() {
        SlotMaps x = after("t2;r8;b0;b0;b0;");
        due("4: giveBack() in and out of a block", x.giveBack(1, 9), 3);
        due("4: slot(1, 0)", x.slot(1, 0), 2);
        due("4: slot(8, 0)", x.slot(8, 0), 3);
        due("4: slot(9, 0)", x.slot(9, 0), 3);
        due("4: slot(10, 0)", x.slot(10, 0), 1);
        due("4: slot(8, 1)", x.slot(8, 1), 0);
        due("4: lazy", x.count(2), 1);
        due("4: takeIn() has it again", x.takeIn(0), 8);
        due("4: kept ones are not given back", x.giveBack(11, 15), STATE);
    }

    private void clear() {
        for (int words : new int[] {0, 11, -1, Integer.MIN_VALUE, Integer.MAX_VALUE}) {
            due("5: clear(" + words + ")", new SlotMaps().clear(words), INVALID);
        }
        SlotMaps x = new SlotMaps();
        due("5: clear(10) of nothing", x.clear(10), 0);
        due("5: is an action", x.count(10), 1);
        due("5: clear(1) of nothing", x.clear(1), 0);

        SlotMaps y = after("t320;f40-41;f70-72;f319;");
        due("5: clear(1)", y.clear(1), 2);
        due("5: slot(40, 0)", y.slot(40, 0), 0);
        due("5: slot(70, 0)", y.slot(70, 0), 2);
        due("5: the bit", y.word(1, 4), 0);
        due("5: the bit of the next", y.word(2, 4), 1);
        due("5: clear(2)", y.clear(2), 4);
        due("5: lazy", y.count(2), 0);
        due("5: free", y.count(0), 6);

        SlotMaps z = after("t320;f0-319;");
        due("5: clear(3)", z.clear(3), 96);
        due("5: clear(10)", z.clear(10), 224);
        due("5: looks", z.count(5), 320);

        SlotMaps w = after("t96;f0-9;f40;d0;d1;d2;");
        due("5: clear(1)", w.clear(1), 10);
        due("5: the bit of word 0 is right", w.word(0, 4), 0);
        due("5: the bit of word 1 is as it was", w.word(1, 4), 0);
        due("5: and it is wrong", w.word(1, 5), 1);
        due("5: kept slots are not cleared", after("r8;b0;f0;").clear(10), 0);
    }

    private void reserve() {
        for (int size : new int[] {0, 1, 2, 3, 5, 12, 24, 33, 64, -4, -8, Integer.MIN_VALUE, Integer.MAX_VALUE}) {
            due("6: reserve(" + size + ")", new SlotMaps().reserve(size), INVALID);
        }
        SlotMaps x = new SlotMaps();
        int[] sizes = {4, 32, 8, 16, 4, 4, 32, 32};
        int[] firsts = {0, 32, 8, 16, 4, 64, 96, 128};
        for (int block = 0; block < 8; block++) {
            due("6: reserve(" + sizes[block] + ")", x.reserve(sizes[block]), block);
            due("6: its first slot", x.block(block, 0), firsts[block]);
        }
        due("6: a ninth block", x.reserve(4), CAPACITY);
        due("6: a ninth block of no size", x.reserve(6), INVALID);
        due("6: kept", x.count(3), 132);
        due("6: the bit of word 0", x.word(0, 4), 1);
        due("6: no looks", x.count(5), 0);
        x.giveUp(5);
        x.giveUp(2);
        due("6: the smallest number again", x.reserve(4), 2);
        due("6: at the first place", x.block(2, 0), 8);
        due("6: and the next", x.reserve(32), 5);
        due("6: at its place", x.block(5, 0), 64);
        due("6: none is left", x.reserve(8), CAPACITY);
        due("6: history", x.count(10), 5);
    }

    private void reservePlaces() {
        due("6: no place", after("t320;").reserve(4), CAPACITY);
        due("6: no place for 32", after("t289;").reserve(32), CAPACITY);
        due("6: the last place for 32", after("t288;").reserve(32), 0);
        SlotMaps x = after("t320;f3-9;f100-119;c10;");
        due("6: reserve(8)", x.reserve(8), 0);
        due("6: begins at", x.block(0, 0), 104);
        due("6: reserve(4)", x.reserve(4), 1);
        due("6: begins at", x.block(1, 0), 4);
        due("6: reserve(16)", x.reserve(16), CAPACITY);
        due("6: reserve(4)", x.reserve(4), 2);
        due("6: begins at", x.block(2, 0), 100);
        due("6: reserve(8)", x.reserve(8), 3);
        due("6: begins at", x.block(3, 0), 112);
        due("6: reserve(4)", x.reserve(4), CAPACITY);
        SlotMaps y = after("t320;f0-319;");
        due("6: lazy slots are not free", y.reserve(4), CAPACITY);
        SlotMaps z = after("d0;d1;r32;");
        due("6: summary bits do not matter", z.block(0, 0), 0);
        due("6: the bit is right then", z.word(0, 4), 1);
        due("6: the other is not", z.word(1, 4), 1);
    }

    private void takeIn() {
        SlotMaps x = after("t1;r4;");
        for (int block : new int[] {1, 7, 8, -1, Integer.MIN_VALUE, Integer.MAX_VALUE}) {
            due("7: takeIn(" + block + ")", x.takeIn(block), INVALID);
        }
        for (int slot = 4; slot < 8; slot++) {
            due("7: takeIn(0)", x.takeIn(0), slot);
            due("7: it is used", x.slot(slot, 0), 1);
            due("7: it belongs to the block", x.slot(slot, 1), 0);
        }
        due("7: history", x.count(10), 5);
        due("7: takeIn(0) without kept slots", x.takeIn(0), CAPACITY);
        due("7: no looks", x.count(5), 1);
        x.giveBack(5, 6);
        due("7: takeIn(0) of the first kept", x.takeIn(0), 5);
        due("7: takeIn(0)", x.takeIn(0), 6);
        due("7: takeIn(0)", x.takeIn(0), CAPACITY);

        SlotMaps y = after("r8;r32;r8;d0;d1;");
        due("7: takeIn(2)", y.takeIn(2), 8);
        due("7: takeIn(1)", y.takeIn(1), 32);
        due("7: takeIn(0)", y.takeIn(0), 0);
        due("7: the bit of word 1 is right", y.word(1, 4), 1);
        due("7: the bit of word 0 is right", y.word(0, 4), 0);
    }

    private void giveUp() {
        SlotMaps x = after("r16;r4;b0;b0;");
        for (int block : new int[] {2, 8, -1, Integer.MIN_VALUE, Integer.MAX_VALUE}) {
            due("8: giveUp(" + block + ")", x.giveUp(block), INVALID);
        }
        due("8: giveUp(0)", x.giveUp(0), 14);
        due("8: slot(1, 0)", x.slot(1, 0), 1);
        due("8: slot(1, 1)", x.slot(1, 1), NONE);
        due("8: slot(2, 0)", x.slot(2, 0), 0);
        due("8: kept", x.count(3), 4);
        due("8: used", x.count(1), 2);
        due("8: free", x.count(0), 314);
        due("8: slot(16, 1)", x.slot(16, 1), 1);
        due("8: giveUp(0) again", x.giveUp(0), INVALID);
        due("8: block(0, 0)", x.block(0, 0), NONE);
        due("8: giveBack(0, 1)", x.giveBack(0, 1), 2);
        due("8: lazy now", x.slot(0, 0), 2);
        due("8: history", x.count(10), 3);

        SlotMaps y = after("r4;b0;b0;b0;b0;d0;");
        due("8: giveUp() of used slots", y.giveUp(0), 0);
        due("8: no slot changes, and no bit", y.word(0, 4), 1);
        due("8: is an action", y.count(10), 2);

        SlotMaps z = after("r32;d1;");
        due("8: a full word", z.word(0, 4), 1);
        due("8: giveUp(0)", z.giveUp(0), 32);
        due("8: its bit", z.word(0, 4), 0);
        due("8: no other bit", z.word(1, 4), 1);
        due("8: the number is free", z.reserve(4), 0);
    }

    private void damage() {
        SlotMaps x = after("t32;");
        for (int word : new int[] {10, -1, 32, Integer.MIN_VALUE, Integer.MAX_VALUE}) {
            due("9: damage(" + word + ")", x.damage(word), INVALID);
        }
        due("9: damage(0)", x.damage(0), 0);
        due("9: damage(0)", x.damage(0), 1);
        due("9: damage(9)", x.damage(9), 1);
        due("9: word(9, 4)", x.word(9, 4), 1);
        due("9: word(8, 4)", x.word(8, 4), 0);
        due("9: history", x.count(10), 4);
        due("9: no slot changes", x.count(0), 288);
    }

    private void repair() {
        SlotMaps x = after("t40;d0;d1;d9;");
        due("10: repair()", x.repair(), 3);
        due("10: word(0, 4)", x.word(0, 4), 1);
        due("10: word(1, 4)", x.word(1, 4), 0);
        due("10: word(9, 4)", x.word(9, 4), 0);
        due("10: repair() of nothing", x.repair(), 0);
        due("10: is an action", x.count(10), 3);
        due("10: looks", x.count(5), 40);
    }

    private void undo() {
        SlotMaps x = new SlotMaps();
        for (int i = 0; i < 7; i++) {
            x.take();
        }
        due("11: history", x.count(10), 5);
        for (int left = 4; left >= 0; left--) {
            due("11: undo()", x.undo(), left);
            due("11: used then", x.count(1), left + 2);
            due("11: looks then", x.count(5), left + 2);
            due("11: states then", x.count(10), left);
        }
        due("11: undo() of nothing", x.undo(), STATE);
        due("11: used still", x.count(1), 2);
        due("11: take() goes on", x.take(), 2);
        due("11: undo() of it", x.undo(), 0);
        due("11: undo() once more", x.undo(), STATE);

        SlotMaps y = new SlotMaps();
        y.append('t');
        y.take();
        y.append(';');
        due("11: undo()", y.undo(), 0);
        due("11: the text stays", y.count(11), 2);
        due("11: and is run", y.run(), 1);
        due("11: undo() of the program", y.undo(), 0);
        due("11: used", y.count(1), 0);
    }

    private void append() {
        SlotMaps x = new SlotMaps();
        for (int character : new int[] {0, 256, -1, 65536 + 't', Integer.MIN_VALUE, Integer.MAX_VALUE}) {
            due("12: append(" + character + ")", x.append(character), INVALID);
        }
        due("12: append(1)", x.append(1), 1);
        due("12: append(255)", x.append(255), 2);
        for (int length = 3; length <= 80; length++) {
            due("12: append('t')", x.append('t'), length);
        }
        due("12: append() to 80", x.append('t'), CAPACITY);
        due("12: append(0) to 80", x.append(0), INVALID);
        due("12: append(256) to 80", x.append(256), INVALID);
        due("12: length", x.count(11), 80);
        due("12: is no action", x.count(10), 0);
        due("12: run()", x.run(), -1000);
    }

    private void clearText() {
        SlotMaps x = new SlotMaps();
        due("13: clearText()", x.clearText(), 0);
        x.append('t');
        x.append(';');
        due("13: clearText()", x.clearText(), 2);
        due("13: length", x.count(11), 0);
        due("13: is no action", x.count(10), 0);
        due("13: run() of nothing", x.run(), 0);
        due("13: used", x.count(1), 0);
        due("13: append() anew", x.append('a'), 1);
        due("13: run()", x.run(), -1001);
    }

    private void runCommands() {
        SlotMaps x = new SlotMaps();
        due("14: run()", program(x, "t;t40;f3;f10-19;c1;r8;b0;d9;a;"), 9);
        due("14: used", x.count(1), 31);
        due("14: lazy", x.count(2), 0);
        due("14: kept", x.count(3), 7);
        due("14: free", x.count(0), 282);
        due("14: blocks", x.count(4), 1);
        due("14: block(0, 0)", x.block(0, 0), 48);
        due("14: looks", x.count(5), 41);
        due("14: bits", x.count(6), 0);
        due("14: one action", x.count(10), 1);
        due("14: the text stays", x.count(11), 30);
        due("14: undo()", x.undo(), 0);
        due("14: used then", x.count(1), 0);
        due("14: run() once more", x.run(), 9);
        x.clearText();
        due("14: run() without commands", x.run(), 0);
        due("14: is an action", x.count(10), 2);

        dueOf("t320;", 1);
        dueOf("d0;d9;", 2);
        dueOf("r32;b0;", 2);
        dueOf("t1;f0;", 2);
        dueOf("t9;f0-0;f1-8;c10;", 4);
        String most = "a;a;a;a;a;a;a;a;a;a;a;a;a;a;a;a;a;a;a;a;a;a;a;a;a;a;a;a;a;a;a;a;a;a;a;a;a;a;a;a;";
        dueOf(most, 40);
    }

    private void runSigns() {
        dueOf(";", -1000);
        dueOf(" ", -1000);
        dueOf("T;", -1000);
        dueOf("5;", -1000);
        dueOf("-", -1000);
        dueOf("t;;", -1002);
        dueOf("t; t;", -1002);
        dueOf("t", -1001);
        dueOf("t5", -1002);
        dueOf("t 5;", -1001);
        dueOf("t-5;", -1001);
        dueOf("t5-6;", -1002);
        dueOf("t05;", -1002);
        dueOf("t00;", -1002);
        dueOf("t1000;", -1004);
        dueOf("t100x", -1004);
        dueOf("tt;", -1001);
        dueOf("t5t;", -1002);
        dueOf("f;", -1001);
        dueOf("f-5;", -1001);
        dueOf("f", -1001);
        dueOf("f5", -1002);
        dueOf("f5-", -1003);
        dueOf("f5-;", -1003);
        dueOf("f5--6;", -1003);
        dueOf("f5-6-7;", -1004);
        dueOf("f5-6", -1004);
        dueOf("f5-06;", -1004);
        dueOf("f05;", -1002);
        dueOf("f100-1000;", -1008);
        dueOf("f1000;", -1004);
        dueOf("c;", -1001);
        dueOf("r;", -1001);
        dueOf("b;", -1001);
        dueOf("d;", -1001);
        dueOf("c1-2;", -1002);
        dueOf("r4-8;", -1002);
        dueOf("b0-1;", -1002);
        dueOf("d0-1;", -1002);
        dueOf("d00;", -1002);
        dueOf("a1;", -1001);
        dueOf("a0;", -1001);
        dueOf("a-;", -1001);
        dueOf("a", -1001);
        dueOf("a;a", -1003);
        dueOf("t;u;", -1002);
        dueOf("t" + (char) 59 + (char) 187, -1002);
        dueOf("t" + (char) 255, -1001);
        dueOf("t1/;", -1002);
        dueOf("t1:;", -1002);
    }

    private void runRefused() {
        dueOf("t0;", -1000);
        dueOf("t321;", -1000);
        dueOf("t999;", -1000);
        dueOf("t320;t;", -1005);
        dueOf("t300;t21;", -1005);
        dueOf("t;t320;", -1002);
        dueOf("f0;", -1000);
        dueOf("t9;f5-4;", -1003);
        dueOf("t9;f0-320;", -1003);
        dueOf("t9;f999;", -1003);
        dueOf("c0;", -1000);
        dueOf("c11;", -1000);
        dueOf("r5;", -1000);
        dueOf("r64;", -1000);
        dueOf("t320;r4;", -1005);
        dueOf("r4;r4;r4;r4;r4;r4;r4;r4;r4;", -1024);
        dueOf("b0;", -1000);
        dueOf("b8;", -1000);
        dueOf("r4;b0;b0;b0;b0;b0;", -1015);
        dueOf("d10;", -1000);
        dueOf("d10", -1003);
        dueOf("a;d10;x", -1002);
        dueOf("t0;x", -1000);
        dueOf("t0x", -1002);
        StringBuilder whole = new StringBuilder();
        for (int i = 0; i < 39; i++) {
            whole.append("a;");
        }
        dueOf(whole + "d1", -1080);
        dueOf(whole + "ax", -1079);
    }

    private void runKeepsNothing() {
        SlotMaps x = after("t40;d5;r4;");
        x.take();
        due("14: run() fails", program(x, "t9;f0-9;c1;r8;b1;d7;t;a;b7;"), -1024);
        due("14: free", x.count(0), 275);
        due("14: used", x.count(1), 41);
        due("14: lazy", x.count(2), 0);
        due("14: blocks", x.count(4), 1);
        due("14: looks", x.count(5), 41);
        due("14: word(5, 4)", x.word(5, 4), 1);
        due("14: word(7, 4)", x.word(7, 4), 0);
        due("14: history", x.count(10), 2);
        due("14: the text stays", x.count(11), 27);
        due("14: undo() is that of take()", x.undo(), 1);
        due("14: used then", x.count(1), 40);
        for (String broken : new String[] {"t", "f5-", "d10", "r8;b"}) {
            program(x, broken);
            due("14: run() after " + broken, program(x, "t;"), 1);
        }
        due("14: used then", x.count(1), 44);
    }

    private void count() {
        SlotMaps x = after("t70;f10-19;f30-40;c1;r8;r4;b0;d9;");
        int[] counts = {250, 50, 9, 11, 2, 70, 2, 1, 5, 240, 1, 33};
        for (int what = 0; what < counts.length; what++) {
            due("15: count(" + what + ")", x.count(what), counts[what]);
        }
        for (int what : new int[] {-1, 12, 13, Integer.MIN_VALUE, Integer.MAX_VALUE}) {
            due("15: count(" + what + ")", x.count(what), INVALID);
        }
        SlotMaps y = after("t320;");
        due("15: no runs", y.count(8), 0);
        due("15: no longest", y.count(9), 0);
        program(y, "f0;f31-32;f63-64;f319;c10;");
        due("15: runs from word to word", y.count(8), 4);
        due("15: the longest", y.count(9), 2);
    }

    private void slot() {
        SlotMaps x = after("t3;f1;r4;b0;");
        int[][] dues = {{0, 1, NONE}, {1, 2, NONE}, {2, 1, NONE}, {3, 0, NONE}, {4, 1, 0}, {5, 3, 0}, {7, 3, 0},
                {8, 0, NONE}, {319, 0, NONE}};
        for (int[] due : dues) {
            due("16: slot(" + due[0] + ", 0)", x.slot(due[0], 0), due[1]);
            due("16: slot(" + due[0] + ", 1)", x.slot(due[0], 1), due[2]);
        }
        for (int what : new int[] {-1, 2, Integer.MIN_VALUE, Integer.MAX_VALUE}) {
            due("16: slot(3, " + what + ")", x.slot(3, what), INVALID);
        }
        for (int slot : new int[] {-1, 320, Integer.MIN_VALUE, Integer.MAX_VALUE}) {
            due("16: slot(" + slot + ", 0)", x.slot(slot, 0), INVALID);
            due("16: slot(" + slot + ", 1)", x.slot(slot, 1), INVALID);
        }
    }

    private void word() {
        SlotMaps x = after("t42;f33-35;r4;d1;d0;");
        int[] zero = {0, 32, 0, 0, 0, 1, NONE};
        int[] one = {18, 7, 3, 4, 1, 0, 42};
        int[] nine = {32, 0, 0, 0, 0, 0, 288};
        for (int what = 0; what < 7; what++) {
            due("17: word(0, " + what + ")", x.word(0, what), zero[what]);
            due("17: word(1, " + what + ")", x.word(1, what), one[what]);
            due("17: word(9, " + what + ")", x.word(9, what), nine[what]);
        }
        due("17: the last slot", after("t319;").word(9, 6), 319);
        for (int what : new int[] {-1, 7, Integer.MIN_VALUE, Integer.MAX_VALUE}) {
            due("17: word(0, " + what + ")", x.word(0, what), INVALID);
        }
        for (int word : new int[] {-1, 10, Integer.MIN_VALUE, Integer.MAX_VALUE}) {
            for (int what = 0; what < 7; what++) {
                due("17: word(" + word + ", " + what + ")", x.word(word, what), INVALID);
            }
        }
    }

    private void block() {
        SlotMaps x = after("t5;r8;r16;r32;b1;b1;b1;");
        int[][] dues = {{8, 8, 0, 8}, {16, 16, 3, 13}, {32, 32, 0, 32}};
        for (int block = 0; block < 3; block++) {
            for (int what = 0; what < 4; what++) {
                due("18: block(" + block + ", " + what + ")", x.block(block, what), dues[block][what]);
            }
        }
        for (int what = 0; what < 4; what++) {
            due("18: block(3, " + what + ")", x.block(3, what), NONE);
            due("18: block(7, " + what + ")", x.block(7, what), NONE);
            due("18: block(8, " + what + ")", x.block(8, what), INVALID);
            due("18: block(-1, " + what + ")", x.block(-1, what), INVALID);
        }
        for (int what : new int[] {-1, 4, Integer.MIN_VALUE, Integer.MAX_VALUE}) {
            due("18: block(0, " + what + ")", x.block(0, what), INVALID);
            due("18: block(7, " + what + ")", x.block(7, what), INVALID);
        }
        due("18: block(MAX, 0)", x.block(Integer.MAX_VALUE, 0), INVALID);
        due("18: block(MIN, 0)", x.block(Integer.MIN_VALUE, 0), INVALID);
    }

    private void audit() {
        SlotMaps x = after("t64;");
        due("19: audit(0)", x.audit(0), 0);
        due("19: audit(1)", x.audit(1), NONE);
        due("19: audit(2)", x.audit(2), 0);
        program(x, "d9;d1;d3;");
        due("19: audit(0)", x.audit(0), 3);
        due("19: audit(1)", x.audit(1), 1);
        due("19: audit(2)", x.audit(2), 2);
        x.damage(0);
        due("19: audit(1)", x.audit(1), 0);
        due("19: audit(2)", x.audit(2), 2);
        for (int what : new int[] {-1, 3, Integer.MIN_VALUE, Integer.MAX_VALUE}) {
            due("19: audit(" + what + ")", x.audit(what), INVALID);
        }
    }

    private void next() {
        SlotMaps x = after("t320;f100;f200;d0;d1;");
        due("20: next(0)", x.next(0), 100);
        due("20: next(1)", x.next(1), 3);
        due("20: next(2)", x.next(2), 1);
        due("20: lazy still", x.count(2), 2);
        due("20: looks still", x.count(5), 320);
        due("20: the bit still", x.word(0, 4), 0);
        due("20: take()", x.take(), 100);
        due("20: looks", x.count(5), 323);
        due("20: next(2)", x.next(2), 0);
        due("20: next(0)", x.next(0), 200);
        due("20: next(1)", x.next(1), 1);
        x.take();
        for (int what = 0; what < 3; what++) {
            due("20: next(" + what + ")", x.next(what), NONE);
        }
        for (int what : new int[] {-1, 3, Integer.MIN_VALUE, Integer.MAX_VALUE}) {
            due("20: next(" + what + ")", x.next(what), INVALID);
        }
        due("20: the slot 0", new SlotMaps().next(0), 0);
        due("20: one look", new SlotMaps().next(1), 1);
        due("20: the last free slot, without clearing", after("t319;f0-9;").next(2), 0);
        due("20: free slots are found without clearing", after("t5;f2;").next(2), 0);
    }

    private void runAt() {
        SlotMaps x = after("t320;f10-12;f30-33;c10;");
        due("21: runAt(1)", x.runAt(1), 10);
        due("21: runAt(3)", x.runAt(3), 10);
        due("21: runAt(4)", x.runAt(4), 30);
        due("21: runAt(5)", x.runAt(5), NONE);
        due("21: runAt(64)", x.runAt(64), NONE);
        for (int many : new int[] {0, 65, -1, Integer.MIN_VALUE, Integer.MAX_VALUE}) {
            due("21: runAt(" + many + ")", x.runAt(many), INVALID);
        }
        due("21: runAt(64)", after("t256;d9;").runAt(64), 256);
    }

    private void placeFor() {
        SlotMaps x = after("t320;f3-9;f100-119;f160-191;c10;");
        due("22: placeFor(4)", x.placeFor(4), 4);
        due("22: placeFor(8)", x.placeFor(8), 104);
        due("22: placeFor(16)", x.placeFor(16), 160);
        due("22: placeFor(32)", x.placeFor(32), 160);
        for (int size : new int[] {0, 1, 2, 3, 5, 6, 12, 64, -4, Integer.MIN_VALUE, Integer.MAX_VALUE}) {
            due("22: placeFor(" + size + ")", x.placeFor(size), INVALID);
        }
        due("22: no place", after("t289;").placeFor(32), NONE);
        due("22: 8 blocks do not matter", after("r4;r4;r4;r4;r4;r4;r4;r4;").placeFor(32), 32);
    }

    private void takes() {
        due("23: takes()", new SlotMaps().takes(), 320);
        due("23: of none", after("t320;").takes(), 0);
        due("23: with lazy ones", after("t300;f0-9;").takes(), 30);
        due("23: without kept ones", after("r32;r8;b0;").takes(), 280);
        due("23: without hidden ones", after("t5;d0;d3;").takes(), 320 - 64);
        due("23: lazy ones bring the hidden ones", after("t5;f2;d0;d3;").takes(), 320 - 32 - 4);
        due("23: a 0 that is wrong", after("t64;d0;").takes(), 256);
        due("23: all words hidden", after("d0;d1;d2;d3;d4;d5;d6;d7;d8;d9;").takes(), 0);
        SlotMaps x = after("t40;f2-3;f35;d0;d1;d2;d8;r16;");
        int takes = x.takes();
        for (int i = 0; i < takes; i++) {
            due("23: take() is not refused", x.take() >= 0 ? 1 : 0, 1);
        }
        due("23: then it is", x.take(), CAPACITY);
        due("23: and none is left", x.takes(), 0);
    }

    /** What could be and what is looked at changes nothing, and no refusal does. */
    private void looksChangeNothing() {
        SlotMaps x = after("t320;f100-140;c1;r8;d0;d9;");
        for (int round = 0; round < 2; round++) {
            due("looks", x.count(5), 320);
            due("history", x.count(10), 1);
            due("bits", x.count(6), 7);
            due("lazy", x.count(2), 13);
            due("free", x.count(0), 20);
            x.next(0);
            x.runAt(64);
            x.placeFor(32);
            x.takes();
            x.takeRun(64);
            x.takeRun(65);
            x.giveBack(96, 95);
            x.giveBack(128, 140);
            x.clear(11);
            x.reserve(32);
            x.takeIn(1);
            x.giveUp(1);
            x.damage(10);
        }
    }
}
