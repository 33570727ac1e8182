/** Counts the answers that are not as due, for all tests. */
final class Checks {
    private int answers;
    private int wrong;

    void due(String call, long got, long want) {
        answers++;
        if (got != want) {
            wrong++;
            System.out.println(call + " answered " + got + ", due is " + want);
        }
    }

    int answers() {
        return answers;
    }

    void holds(String fact, boolean isSo) {
        due(fact, isSo ? 1 : 0, 1);
    }

    /** Exits with 1 if an answer was wrong, and also if none was looked at. */
    void end() {
        System.out.println(answers + " answers, " + wrong + " of them not as due");
        if (wrong != 0 || answers == 0) {
            System.exit(1);
        }
    }
}
