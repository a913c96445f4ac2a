/** Counts the answers that are not as due; a test ends with finish(). */
final class Checks {
    private final String test;
    private int asked = 0;
    private int wrong = 0;

    Checks(String test) {
        this.test = test;
    }

    void due(String what, long want, long got) {
        asked++;
        if (want != got) {
            wrong++;
            System.out.println(test + ": " + what + " answered " + got + ", due is " + want);
        }
    }

    void due(String what, boolean want, boolean got) {
        due(what, want ? 1 : 0, got ? 1 : 0);
    }

    void finish() {
        System.out.println(test + ": " + asked + " answers, " + wrong + " wrong");
        if (wrong != 0) {
            System.exit(1);
        }
    }
}
