import java.io.IOException;
import java.lang.reflect.Method;
import java.nio.file.Files;
import java.nio.file.Path;
import java.util.regex.Matcher;
import java.util.regex.Pattern;

/** The example of README.md: each call that has an answer behind it gives this answer. */
public final class ReadmeTest {
    private static final Pattern CALL = Pattern.compile(" {4}map\\.(\\w+)\\(([^)]*)\\); *// (-?\\d+)(:.*)?");
    private static final Pattern TEXT = Pattern.compile(" {4}for \\(char sign : \"([^\"]*)\"\\.toCharArray\\(\\)\\) \\{");
    /** The lines of the example without an answer. */
    private static final Pattern FRAME = Pattern.compile(" {4}(SlotMaps map = .*| {4}map\\.append\\(sign\\);|})");

    private final Checks checks = new Checks();
    private final SlotMaps map = new SlotMaps();
    private int answers;

    public static void main(String[] args) throws IOException, ReflectiveOperationException {
        ReadmeTest test = new ReadmeTest();
        boolean inExample = false;
        for (String line : Files.readAllLines(Path.of("README.md"))) {
            inExample = line.contains("new SlotMaps()") || inExample && (line.isEmpty() || line.startsWith("    "));
            if (inExample && !line.isEmpty()) {
                test.follow(line);
            }
        }
        test.checks.holds("the example has answers", test.answers > 0);
        test.checks.end();
    }

    private void follow(String line) throws ReflectiveOperationException {
        Matcher call = CALL.matcher(line);
        Matcher text = TEXT.matcher(line);
        if (call.matches()) {
            answers++;
            checks.due(line.strip(), answer(call.group(1), call.group(2)), Integer.parseInt(call.group(3)));
        } else if (text.matches()) {
            text.group(1).chars().forEach(map::append);
        } else {
            checks.holds("a line that can be followed: " + line, FRAME.matcher(line).matches());
        }
    }

    private int answer(String name, String list) throws ReflectiveOperationException {
        String[] words = list.isEmpty() ? new String[0] : list.split(", ");
        Class<?>[] types = new Class<?>[words.length];
        Object[] values = new Object[words.length];
        for (int i = 0; i < words.length; i++) {
            types[i] = int.class;
            values[i] = words[i].startsWith("'") ? words[i].charAt(1) : Integer.parseInt(words[i]);
        }
        Method method = SlotMaps.class.getMethod(name, types);
        return (int) method.invoke(map, values);
    }
}
