/** Many runs of at most 512 calls each, whose answers are held against SlotModel; the same runs each time. */
public final class RandomRunsTest {
    private static final int RUNS = 600;
    /** A step has at most 82 calls and the end 103, so that no object is asked more than 512 times. */
    private static final int CALLS = 320;
    private static final int[] SIZES = {4, 8, 16, 32};
    private static final String SIGNS = "tfcrbda;-0123456789 x";

    private final Checks checks = new Checks();
    private long seed;
    private int run;
    private int step;
    private SlotMaps real;
    private SlotModel model;

    public static void main(String[] args) {
        RandomRunsTest test = new RandomRunsTest();
        for (int run = 0; run < RUNS; run++) {
            test.oneRun(run);
        }
        test.checks.end();
    }

    private int below(int bound) {
        seed = seed * 6364136223846793005L + 1442695040888963407L;
        return (int) ((seed >>> 33) % bound);
    }

    private void oneRun(int number) {
        run = number;
        seed = 77 + number;
        real = new SlotMaps();
        model = new SlotModel();
        int calls = 0;
        for (step = 0; calls < CALLS; step++) {
            calls += below(3) == 0 ? look() : act();
        }
        compareAll();
    }

    private int same(String call, int got, int want) {
        checks.due("run " + run + ", step " + step + ": " + call, got, want);
        return 1;
    }

    private int act() {
        int a = below(330) - 5;
        int b = a + below(90) - 5;
        switch (below(run % 4 == 0 ? 26 : 22)) {
            case 0: case 1: case 2: case 3:
                return same("take()", real.take(), model.take());
            case 4: case 5: case 6: {
                int many = below(68) - 1;
                return same("takeRun(" + many + ")", real.takeRun(many), model.takeRun(many));
            }
            case 7: case 8: case 9:
                return same("giveBack(" + a + ", " + b + ")", real.giveBack(a, b), model.giveBack(a, b));
            case 10: {
                int words = below(13) - 1;
                return same("clear(" + words + ")", real.clear(words), model.clear(words));
            }
            case 11: case 12: {
                int size = below(6) == 0 ? below(40) - 2 : SIZES[below(4)];
                return same("reserve(" + size + ")", real.reserve(size), model.reserve(size));
            }
            case 13: case 14: case 15: {
                int block = below(10) - 1;
                return same("takeIn(" + block + ")", real.takeIn(block), model.takeIn(block));
            }
            case 16: {
                int block = below(10) - 1;
                return same("giveUp(" + block + ")", real.giveUp(block), model.giveUp(block));
            }
            case 17: case 18: {
                int word = below(12) - 1;
                return same("damage(" + word + ")", real.damage(word), model.damage(word));
            }
            case 19:
                return below(3) != 0 ? 0 : same("repair()", real.repair(), model.repair());
            case 20:
                return same("undo()", real.undo(), model.undo());
            case 21: {
                int to = 159 + 160 * below(2);
                return same("giveBack(0, " + to + ")", real.giveBack(0, to), model.giveBack(0, to));
            }
            case 22:
                return signs();
            default:
                return runProgram();
        }
    }

    private int signs() {
        int sign = below(3) == 0 ? below(260) - 2 : SIGNS.charAt(below(SIGNS.length()));
        return same("append(" + sign + ")", real.append(sign), model.append(sign))
                + same("run()", real.run(), model.run());
    }

    private int runProgram() {
        StringBuilder text = new StringBuilder();
        int commands = below(6);
        for (int i = 0; i < commands; i++) {
            text.append(command());
        }
        if (below(3) == 0 && text.length() > 0) {
            int at = below(text.length());
            text.setCharAt(at, SIGNS.charAt(below(SIGNS.length())));
        } else if (below(4) == 0 && text.length() > 0) {
            text.setLength(below(text.length()));
        }
        int calls = same("clearText()", real.clearText(), model.clearText());
        for (int i = 0; i < text.length(); i++) {
            char sign = text.charAt(i);
            calls += same("append(" + (int) sign + ")", real.append(sign), model.append(sign));
        }
        return calls + same("run() of " + text, real.run(), model.run());
    }

    private String command() {
        int from = below(320);
        switch (below(10)) {
            case 0:
                return "t;";
            case 1: case 2:
                return "t" + below(below(5) == 0 ? 330 : 80) + ";";
            case 3:
                return "f" + from + ";";
            case 4:
                return "f" + from + "-" + (from + below(60)) + ";";
            case 5:
                return "c" + below(11) + ";";
            case 6:
                return "r" + SIZES[below(4)] + ";";
            case 7:
                return "b" + below(3) + ";";
            case 8:
                return "d" + below(10) + ";";
            default:
                return "a;";
        }
    }

    private int look() {
        int what = below(14) - 1;
        switch (below(9)) {
            case 0:
                return same("count(" + what + ")", real.count(what), model.count(what));
            case 1: {
                int slot = below(330) - 5;
                int kind = below(4) - 1;
                return same("slot(" + slot + ", " + kind + ")", real.slot(slot, kind), model.slot(slot, kind));
            }
            case 2: {
                int word = below(12) - 1;
                int kind = below(9) - 1;
                return same("word(" + word + ", " + kind + ")", real.word(word, kind), model.word(word, kind));
            }
            case 3: {
                int block = below(10) - 1;
                int kind = below(6) - 1;
                return same("block(" + block + ", " + kind + ")", real.block(block, kind), model.block(block, kind));
            }
            case 4: {
                int kind = below(5) - 1;
                return same("audit(" + kind + ")", real.audit(kind), model.audit(kind));
            }
            case 5: {
                int kind = below(5) - 1;
                return same("next(" + kind + ")", real.next(kind), model.next(kind));
            }
            case 6: {
                int many = below(68) - 1;
                return same("runAt(" + many + ")", real.runAt(many), model.runAt(many));
            }
            case 7: {
                int size = SIZES[below(4)] + (below(5) == 0 ? 1 : 0);
                return same("placeFor(" + size + ")", real.placeFor(size), model.placeFor(size));
            }
            default:
                return same("takes()", real.takes(), model.takes());
        }
    }

    private void compareAll() {
        for (int what = 0; what < 12; what++) {
            same("count(" + what + ") at the end", real.count(what), model.count(what));
        }
        for (int slot = run % 8; slot < 320; slot += 8) {
            same("slot(" + slot + ", 0) at the end", real.slot(slot, 0), model.slot(slot, 0));
            same("slot(" + slot + ", 1) at the end", real.slot(slot, 1), model.slot(slot, 1));
        }
        for (int word = 0; word < 10; word++) {
            same("word(" + word + ", 4) at the end", real.word(word, 4), model.word(word, 4));
        }
        same("takes() at the end", real.takes(), model.takes());
    }
}
