/** The boundary cases of the promises 12 to 14: append, clearText, run. */
public final class ProgramsBoundariesTest extends MapChecks {
    private static final String DIGITS = "0123456789";

    public static void main(String[] args) throws ReflectiveOperationException {
        new ProgramsBoundariesTest().runPromises(12, 14);
    }

    private static String times(int many, String part) {
        StringBuilder text = new StringBuilder();
        for (int i = 0; i < many; i++) {
            text.append(part);
        }
        return text.toString();
    }

    private static SlotMaps withText(String text) {
        SlotMaps x = new SlotMaps();
        text(x, text);
        return x;
    }

    void promise12CharacterTooSmall() {
        for (int character : new int[] {0, -1, LEAST}) {
            dueUnchanged(start("t;"), "append(" + character + ")", x -> x.append(character), INVALID);
        }
    }

    void promise12CharacterTooLarge() {
        for (int character : new int[] {256, 65536 + 't', MOST}) {
            dueUnchanged(start("t;"), "append(" + character + ")", x -> x.append(character), INVALID);
        }
    }

    void promise12LeastAndMostCharacter() {
        SlotMaps x = new SlotMaps();
        due("append(1)", x.append(1), 1);
        due("append(255)", x.append(255), 2);
        due("length", x.count(11), 2);
    }

    void promise12EachCharacterIsAppended() {
        for (int character = 1; character <= 255; character++) {
            due("append(" + character + ")", new SlotMaps().append(character), 1);
        }
    }

    void promise12EightiethCharacter() {
        SlotMaps x = withText(times(39, "a;") + "a");
        due("append(';')", x.append(';'), 80);
        due("length", x.count(11), 80);
        due("run()", x.run(), 40);
    }

    void promise12TextHas80Characters() {
        SlotMaps x = withText(times(40, "a;"));
        due("append('a')", x.append('a'), CAPACITY);
        due("append(1)", x.append(1), CAPACITY);
        due("append(255)", x.append(255), CAPACITY);
        due("length", x.count(11), 80);
        due("the text is as it was", x.run(), 40);
    }

    void promise12OutOfRangeIsToldBeforeNoRoom() {
        SlotMaps x = withText(times(40, "a;"));
        due("append(0)", x.append(0), INVALID);
        due("append(256)", x.append(256), INVALID);
    }

    void promise12RoomAgainInAnEmptyText() {
        SlotMaps x = withText(times(40, "a;"));
        x.clearText();
        due("append('d')", x.append('d'), 1);
        due("run()", x.run(), -1001);
    }

    void promise12IsNoAction() {
        SlotMaps x = withText("t;");
        due("states", x.count(10), 0);
        due("undo()", x.undo(), STATE);
        due("length", x.count(11), 2);
    }

    void promise13EmptyText() {
        SlotMaps x = new SlotMaps();
        due("clearText()", x.clearText(), 0);
        due("clearText() again", x.clearText(), 0);
        due("length", x.count(11), 0);
    }

    void promise13OneCharacter() {
        SlotMaps x = withText("t");
        due("clearText()", x.clearText(), 1);
        due("clearText() again", x.clearText(), 0);
        due("run()", x.run(), 0);
    }

    void promise13FullText() {
        SlotMaps x = withText(times(40, "a;"));
        due("clearText()", x.clearText(), 80);
        due("length", x.count(11), 0);
        due("run()", x.run(), 0);
    }

    void promise13IsNoActionAndChangesNothingElse() {
        SlotMaps x = after("t40;r4;d9;");
        SlotMaps y = after("t40;r4;d9;");
        due("clearText()", x.clearText(), 10);
        text(x, "t40;r4;d9;");
        dueSame("clearText()", x, y);
    }

    void promise14EmptyText() {
        SlotMaps x = new SlotMaps();
        due("run()", x.run(), 0);
        due("is an action", x.count(10), 1);
        due("undo()", x.undo(), 0);
    }

    void promise14MostCommands() {
        SlotMaps x = withText(times(40, "t;"));
        due("run()", x.run(), 40);
        due("used", x.count(1), 40);
        due("is one action", x.count(10), 1);
        due("undo()", x.undo(), 0);
        due("used then", x.count(1), 0);
    }

    void promise14ManyLeastAndMost() {
        dueOf("t1;", 1);
        SlotMaps x = withText("t320;");
        due("run()", x.run(), 1);
        due("used", x.count(1), 320);
    }

    void promise14ManyIsLeftOut() {
        SlotMaps x = withText("t;");
        due("run()", x.run(), 1);
        due("used", x.count(1), 1);
    }

    void promise14ManyOutOfRange() {
        dueOf("t0;", -1000);
        dueOf("t321;", -1000);
        dueOf("t999;", -1000);
        dueOf("a;t0;", -1002);
        dueOf("a;t321;", -1002);
        dueFails(start("t;"), "t;t0;", -1002);
        dueFails(start("t;"), "t;t321;", -1002);
    }

    void promise14OneOfManyTakesIsRefused() {
        dueOf("t320;t;", -1005);
        dueOf("t320;t1;", -1005);
        dueOf("t319;t2;", -1005);
        dueOf("t;t320;", -1002);
        dueOf("t319;t1;", 2);
        dueFails(start("t319;"), "t2;", -1000);
        dueFails(start("t300;"), "t10;t11;", -1004);
    }

    void promise14TakesClearLazySlots() {
        SlotMaps x = withText("t320;f0-319;t320;");
        due("run()", x.run(), 3);
        due("used", x.count(1), 320);
        due("looks", x.count(5), 640);
        dueOf("t320;f0-9;t11;", -1010);
    }

    void promise14OneToThreeDigits() {
        dueOf("t9;", 1);
        dueOf("t10;", 1);
        dueOf("t99;", 1);
        dueOf("t100;", 1);
        dueOf("t1000;", -1004);
        dueOf("t320;f319-319;", 2);
        dueOf("t9;f0-1000;", -1009);
        dueOf("f1000-1;", -1004);
        dueOf("c1000;", -1004);
        dueOf("r1000;", -1004);
        dueOf("b1000;", -1004);
        dueOf("d1000;", -1004);
        dueOf("t0000;", -1002);
    }

    void promise14FirstOfSeveralDigitsIsNot0() {
        dueOf("d0;", 1);
        dueOf("d00;", -1002);
        dueOf("d01;", -1002);
        dueOf("t01;", -1002);
        dueOf("t;f00;", -1004);
        dueOf("t;f0-00;", -1006);
        dueOf("t;f0-0;", 2);
        dueOf("r04;", -1002);
        dueOf("c01;", -1002);
        dueOf("b00;", -1002);
        dueOf("t100;f10-20;", 2);
    }

    /** A text is the ways to be in a command; the others are all signs that may follow. */
    void promise14NothingElseMayStandInAText() {
        String[][] places = {{"", "tfcrbda"}, {"a;", "tfcrbda"}, {"t;", "tfcrbda"},
                {"t", DIGITS + ";"}, {"t1", DIGITS + ";"}, {"t0", ";"}, {"t12", DIGITS + ";"}, {"t123", ";"},
                {"f", DIGITS}, {"f0", "-;"}, {"f1", DIGITS + "-;"}, {"f12", DIGITS + "-;"}, {"f123", "-;"},
                {"f1-", DIGITS}, {"f1-0", ";"}, {"f1-1", DIGITS + ";"}, {"f1-12", DIGITS + ";"}, {"f1-123", ";"},
                {"c", DIGITS}, {"c0", ";"}, {"c1", DIGITS + ";"}, {"c12", DIGITS + ";"}, {"c123", ";"},
                {"r", DIGITS}, {"r0", ";"}, {"r4", DIGITS + ";"}, {"r12", DIGITS + ";"}, {"r123", ";"},
                {"b", DIGITS}, {"b0", ";"}, {"b1", DIGITS + ";"}, {"b12", DIGITS + ";"}, {"b123", ";"},
                {"d", DIGITS}, {"d0", ";"}, {"d1", DIGITS + ";"}, {"d12", DIGITS + ";"}, {"d123", ";"},
                {"a", ";"}};
        for (String[] place : places) {
            for (int sign = 1; sign <= 255; sign++) {
                int failure = -1000 - place[0].length();
                int answer = program(new SlotMaps(), place[0] + (char) sign);
                boolean allowed = place[1].indexOf(sign) >= 0;
                due("run() of " + place[0] + " and the sign " + sign, answer == failure ? 1 : 0, allowed ? 0 : 1);
            }
        }
    }

    void promise14TextEndsWhereSomethingIsMissing() {
        for (String text : new String[] {"t", "t1", "t320", "f", "f5", "f5-", "f5-6", "c", "c1", "r", "r4", "b", "b0",
                "d", "d9", "a", "a;t", "a;a", "t;f0-"}) {
            dueOf(text, -1000 - text.length());
        }
        dueOf(times(39, "a;") + "aa", -1079);
        dueOf(times(39, "a;") + "d9", -1080);
    }

    void promise14PlaceOfARefusedCommandIsThatOfItsLetter() {
        dueOf("f0;", -1000);
        dueOf("t9;f9;", -1003);
        dueOf("t9;f5-4;", -1003);
        dueOf("t9;f0-320;", -1003);
        dueOf("t9;f320-320;", -1003);
        dueOf("t9;f999;", -1003);
        dueOf("a;c0;", -1002);
        dueOf("a;c11;", -1002);
        dueOf("a;r0;", -1002);
        dueOf("a;r5;", -1002);
        dueOf("a;r64;", -1002);
        dueOf("t320;r4;", -1005);
        dueOf("r4;r4;r4;r4;r4;r4;r4;r4;r4;", -1024);
        dueOf("a;b0;", -1002);
        dueOf("r4;b1;", -1003);
        dueOf("a;b8;", -1002);
        dueOf("r4;b0;b0;b0;b0;b0;", -1015);
        dueOf("a;d10;", -1002);
        dueOf("a;d999;", -1002);
    }

    void promise14EdgesOfTheCommands() {
        dueOf("t320;f0;f319;", 3);
        dueOf("t320;f0-319;", 2);
        dueOf("t9;f8-8;", 2);
        dueOf("c1;c10;", 2);
        dueOf("r4;r8;r16;r32;", 4);
        dueOf("r4;r4;r4;r4;r4;r4;r4;r4;b0;b7;", 10);
        dueOf("r4;b0;b0;b0;b0;", 5);
        dueOf("d0;d9;a;", 3);
    }

    void promise14CommandsAreRunAsTheyAreRead() {
        dueOf("d10;x", -1000);
        dueOf("d10x", -1003);
        dueOf("t0;", -1000);
        dueOf("t0x", -1002);
        dueOf("a;f0;f", -1002);
        dueOf("t;f0;f0;", -1005);
        dueOf("b0;r4;", -1000);
    }

    /** Nothing that a failed program has done stays, nor is it recorded. */
    private void dueFails(String[] programs, String text, int want) {
        SlotMaps x = after(programs);
        SlotMaps y = after(programs);
        text(x, text);
        text(y, text);
        due("run() of " + text, x.run(), want);
        due("the length of the text", x.count(11), text.length());
        dueSame("run() of " + text, x, y);
    }

    void promise14NothingStaysOfAFailedProgram() {
        String[] programs = start("t40;", "r4;d5;", "f0-4;");
        dueFails(programs, "t9;f0-9;c1;r8;b0;d7;t;a;x", -1024);
        dueFails(programs, "t9;f0-9;c1;r8;b0;d7;t;a;b7;", -1024);
        dueFails(programs, "t9;f0-9;c1;r8;b0;d7;t;a;b0", -1026);
        dueFails(programs, "c10;r32;r32;d", -1013);
        dueFails(programs, "b0;b0;b0;b0;b0;", -1012);
        dueFails(programs, "x", -1000);
    }

    void promise14AfterAFailureTheTextIsReadAnew() {
        SlotMaps x = new SlotMaps();
        for (String broken : new String[] {"t", "t5", "f5-", "f1-12", "d10;", "r8;b", "a", "5"}) {
            due("run() of " + broken, program(x, broken) < 0 ? 1 : 0, 1);
            due("run() after it", program(x, "t;"), 1);
        }
        due("used", x.count(1), 8);
    }

    void promise14TextStaysAsItIs() {
        SlotMaps x = withText("t2;d0;");
        due("run()", x.run(), 2);
        due("length", x.count(11), 6);
        due("run() once more", x.run(), 2);
        due("used", x.count(1), 4);
        due("the second time word 0 is passed over", x.slot(33, 0), 1);
        due("word(0, 4)", x.word(0, 4), 0);
    }

    void promise14IsOneActionUnlessItFails() {
        SlotMaps x = after("t;", "t;", "t;", "t;");
        due("run()", program(x, "t3;d9;a;"), 3);
        due("states", x.count(10), 5);
        due("run()", x.run(), 3);
        due("states", x.count(10), 5);
        due("run() that fails", program(x, "t3;b0;"), -1003);
        due("undo()", x.undo(), 4);
        due("used", x.count(1), 7);
        due("undo()", x.undo(), 3);
        due("used", x.count(1), 4);
    }
}
