/** Counts the answers that are not as due, and ends a test with exit code 1 if there was one. */
final class Checks {
    private final String test;
    private int made;
    private int wrong;

    Checks(String test) {
        this.test = test;
    }

    int made() {
        return made;
    }

    int wrong() {
        return wrong;
    }

    void due(String call, long got, long want) {
        made++;
        if (got != want) {
            wrong++;
            System.out.println(test + ": " + call + " answered " + got + ", due is " + want);
        }
    }

    void same(String what, String got, String want) {
        made++;
        if (!got.equals(want)) {
            wrong++;
            System.out.println(test + ": " + what + " is " + got + ", due is " + want);
        }
    }

    void end() {
        System.out.println(test + ": " + made + " answers, " + wrong + " not as due");
        if (wrong != 0 || made == 0) {
            System.exit(1);
        }
    }
}
