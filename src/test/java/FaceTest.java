import java.io.IOException;
import java.lang.reflect.Constructor;
import java.lang.reflect.Field;
import java.lang.reflect.Method;
import java.lang.reflect.Modifier;
import java.nio.file.Files;
import java.nio.file.Path;
import java.util.Arrays;
import java.util.Set;
import java.util.TreeSet;

/** The public face of the document, and those rules of LANGUAGE.md that can be read off the class and its file. */
public final class FaceTest {
    private static final String[] METHODS = {
        "append(int)", "audit(int)", "block(int,int)", "clear(int)", "clearText()", "count(int)", "damage(int)",
        "giveBack(int,int)", "giveUp(int)", "next(int)", "placeFor(int)", "repair()", "reserve(int)", "run()",
        "runAt(int)", "slot(int,int)", "take()", "takeIn(int)", "takeRun(int)", "takes()", "undo()", "word(int,int)"};
    private static final String[] CONSTANTS = {"CAPACITY_EXCEEDED", "ILLEGAL_STATE", "INVALID_ARGUMENT", "NONE"};
    private static final String[] FORBIDDEN_WORDS = {"throw", "throws", "try", "catch", "finally", "synchronized",
        "assert", "import", "package", "native", "volatile", "transient", "lambda", "Exact"};

    private final Checks checks = new Checks();

    public static void main(String[] args) throws IOException {
        FaceTest test = new FaceTest();
        test.constants();
        test.members();
        test.classesInside();
        test.forbiddenWords(Files.readString(Path.of("src/main/java/SlotMaps.java")));
        test.checks.end();
    }

    private void constants() {
        checks.due("INVALID_ARGUMENT", SlotMaps.INVALID_ARGUMENT, -1);
        checks.due("ILLEGAL_STATE", SlotMaps.ILLEGAL_STATE, -2);
        checks.due("CAPACITY_EXCEEDED", SlotMaps.CAPACITY_EXCEEDED, -3);
        checks.due("NONE", SlotMaps.NONE, -9);
    }

    private void members() {
        checks.holds("public and final", SlotMaps.class.getModifiers() == (Modifier.PUBLIC | Modifier.FINAL));
        Set<String> open = new TreeSet<>();
        Set<String> publicNames = new TreeSet<>();
        Set<String> privateNames = new TreeSet<>();
        for (Method method : SlotMaps.class.getDeclaredMethods()) {
            if (Modifier.isPrivate(method.getModifiers())) {
                privateNames.add(method.getName());
            } else {
                publicNames.add(method.getName());
                open.add(signature(method));
                checks.holds(method + " is public", method.getModifiers() == Modifier.PUBLIC);
                checks.holds(method + " answers an int", method.getReturnType() == int.class);
            }
        }
        checks.holds("the methods are " + open, open.equals(new TreeSet<>(Arrays.asList(METHODS))));
        privateNames.retainAll(publicNames);
        checks.holds("private names of public methods: " + privateNames, privateNames.isEmpty());
        constructorsAndFields();
    }

    private void constructorsAndFields() {
        Constructor<?>[] constructors = SlotMaps.class.getDeclaredConstructors();
        checks.holds("one constructor, public and without parameters", constructors.length == 1
                && constructors[0].getModifiers() == Modifier.PUBLIC && constructors[0].getParameterCount() == 0);
        Set<String> open = new TreeSet<>();
        for (Field field : SlotMaps.class.getDeclaredFields()) {
            if (!Modifier.isPrivate(field.getModifiers())) {
                open.add(field.getName());
            }
        }
        checks.holds("the constants are " + open, open.equals(new TreeSet<>(Arrays.asList(CONSTANTS))));
        staticFieldsAreFinal(SlotMaps.class);
    }

    private static String signature(Method method) {
        StringBuilder text = new StringBuilder(method.getName()).append('(');
        for (Class<?> type : method.getParameterTypes()) {
            text.append(text.charAt(text.length() - 1) == '(' ? "" : ",").append(type.getName());
        }
        return text.append(')').toString();
    }

    private void classesInside() {
        Set<String> face = new TreeSet<>();
        for (String method : METHODS) {
            face.add(method.substring(0, method.indexOf('(')));
        }
        for (Class<?> inside : SlotMaps.class.getDeclaredClasses()) {
            int modifiers = inside.getModifiers();
            checks.holds(inside + " is static", Modifier.isStatic(modifiers));
            checks.holds(inside + " is not open", !Modifier.isPublic(modifiers) && !Modifier.isProtected(modifiers));
            staticFieldsAreFinal(inside);
            for (Method method : inside.getDeclaredMethods()) {
                checks.holds(method + " bears a name of its own", !face.contains(method.getName()));
            }
        }
    }

    private void staticFieldsAreFinal(Class<?> type) {
        int instance = 0;
        for (Field field : type.getDeclaredFields()) {
            if (Modifier.isStatic(field.getModifiers())) {
                checks.holds(field + " is final", Modifier.isFinal(field.getModifiers()));
            } else {
                instance++;
            }
        }
        checks.holds(type + " has at most twenty fields", instance <= 20);
    }

    private void forbiddenWords(String source) {
        String code = source.replaceAll("(?s)/\\*.*?\\*/", " ").replaceAll("//[^\\n]*", " ");
        Set<String> words = new TreeSet<>(Arrays.asList(code.split("[^A-Za-z0-9_]+")));
        for (String word : FORBIDDEN_WORDS) {
            checks.holds("the word " + word + " does not stand in the class", !words.contains(word));
        }
        checks.holds("no lambda, no method reference", !code.contains("->") && !code.contains("::"));
    }
}
