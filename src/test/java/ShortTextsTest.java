/** run() of every text of at most four signs that programs are made of, held against SlotModel. */
public final class ShortTextsTest {
    private static final String SIGNS = "tfcrbda;-01349x";
    private static final int LONGEST = 4;

    private final Checks checks = new Checks();

    public static void main(String[] args) {
        ShortTextsTest test = new ShortTextsTest();
        test.textsFrom("");
        test.checks.end();
    }

    private void textsFrom(String text) {
        compare(text);
        if (text.length() < LONGEST) {
            for (int i = 0; i < SIGNS.length(); i++) {
                textsFrom(text + SIGNS.charAt(i));
            }
        }
    }

    private void compare(String text) {
        SlotMaps real = new SlotMaps();
        SlotModel model = new SlotModel();
        real.takeRun(3);
        model.takeRun(3);
        real.reserve(4);
        model.reserve(4);
        for (int i = 0; i < text.length(); i++) {
            real.append(text.charAt(i));
            model.append(text.charAt(i));
        }
        checks.due("run() of " + text, real.run(), model.run());
        for (int what : new int[] {1, 2, 3, 5, 6, 10}) {
            checks.due("count(" + what + ") after " + text, real.count(what), model.count(what));
        }
    }
}
