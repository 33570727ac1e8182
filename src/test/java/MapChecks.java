import java.lang.reflect.InvocationTargetException;
import java.lang.reflect.Method;
import java.util.Map;
import java.util.TreeMap;
import java.util.function.ToIntFunction;

/** What the tests of the promises share: objects in a wanted state, refused calls, and tests named after promises. */
abstract class MapChecks {
    static final int INVALID = -1;
    static final int STATE = -2;
    static final int CAPACITY = -3;
    static final int NONE = -9;
    static final int LEAST = Integer.MIN_VALUE;
    static final int MOST = Integer.MAX_VALUE;

    static final int[] SIZES = {4, 8, 16, 32};
    static final String ALL_BITS = "d0;d1;d2;d3;d4;d5;d6;d7;d8;d9;";
    static final String EIGHT_BLOCKS = "r4;r4;r4;r4;r4;r4;r4;r4;";

    /** With more, the comparison of two objects would go past the 512 calls that the document speaks of. */
    private static final int START_CALLS = 80;

    private final Checks checks = new Checks();
    private String test = "";

    final void due(String call, long got, long want) {
        checks.due(test + call, got, want);
    }

    final void end() {
        checks.end();
    }

    /** Runs the methods that are named after these promises, and misses a promise without one. */
    final void runPromises(int first, int last) throws ReflectiveOperationException {
        Map<String, Method> tests = new TreeMap<>();
        for (Method method : getClass().getDeclaredMethods()) {
            if (method.getName().startsWith("promise")) {
                tests.put(method.getName(), method);
            }
        }
        for (int promise = first; promise <= last; promise++) {
            String name = "promise" + promise / 10 + promise % 10;
            checks.holds("there is a test of " + name, tests.keySet().stream().anyMatch(t -> t.startsWith(name)));
        }
        for (Method method : tests.values()) {
            runTest(method);
        }
        end();
    }

    private void runTest(Method method) throws ReflectiveOperationException {
        int before = checks.answers();
        test = method.getName() + ": ";
        try {
            method.invoke(this);
        } catch (InvocationTargetException thrown) {
            throw new IllegalStateException(method.getName() + " throws", thrown.getCause());
        }
        checks.holds(test + "looks at answers", checks.answers() > before);
        test = "";
    }

    static boolean isSize(int size) {
        return size == 4 || size == 8 || size == 16 || size == 32;
    }

    static void text(SlotMaps x, String text) {
        x.clearText();
        for (int i = 0; i < text.length(); i++) {
            x.append(text.charAt(i));
        }
    }

    static int program(SlotMaps x, String text) {
        text(x, text);
        return x.run();
    }

    /** A new object on which these programs have been run: one state in the history for each. */
    static SlotMaps after(String... programs) {
        SlotMaps x = new SlotMaps();
        for (String program : programs) {
            if (program(x, program) < 0) {
                throw new IllegalStateException("the program fails: " + program);
            }
        }
        return x;
    }

    static String[] start(String... programs) {
        int calls = 0;
        for (String program : programs) {
            calls += program.length() + 2;
        }
        if (calls > START_CALLS) {
            throw new IllegalStateException("too many calls: " + String.join(" ", programs));
        }
        return programs;
    }

    /** The answer of a program on a new object. */
    final void dueOf(String text, int want) {
        due("run() of " + text, program(new SlotMaps(), text), want);
    }

    /** The call answers so, be it an error or not, and changes nothing: the object stays like one not asked. */
    final void dueUnchanged(String[] programs, String name, ToIntFunction<SlotMaps> call, int want) {
        SlotMaps x = after(programs);
        String of = name + " after " + String.join(" ", programs);
        due(of, call.applyAsInt(x), want);
        dueSame(of, x, after(programs));
    }

    /** Looks at all that can be seen of two objects, then at the states of their histories: uses them up. */
    final void dueSame(String of, SlotMaps x, SlotMaps y) {
        for (int slot = 0; slot < 320; slot++) {
            due(of + ": slot(" + slot + ", 0)", x.slot(slot, 0), y.slot(slot, 0));
        }
        for (int word = 0; word < 10; word++) {
            due(of + ": word(" + word + ", 4)", x.word(word, 4), y.word(word, 4));
        }
        for (int block = 0; block < 8; block++) {
            for (int what = 0; what < 4; what++) {
                due(of + ": block(" + block + ", " + what + ")", x.block(block, what), y.block(block, what));
            }
        }
        dueSameCounts(of, x, y, 12);
        for (int undone = 1; undone <= 5; undone++) {
            String then = of + ": undo() number " + undone;
            due(then, x.undo(), y.undo());
            dueSameCounts(then, x, y, 7);
        }
        due(of + ": run()", x.run(), y.run());
    }

    private void dueSameCounts(String of, SlotMaps x, SlotMaps y, int counts) {
        for (int what = 0; what < counts; what++) {
            due(of + ": count(" + what + ")", x.count(what), y.count(what));
        }
    }
}
