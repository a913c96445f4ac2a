import java.util.function.IntUnaryOperator;

/** Counts the answers that are not as due; a test ends with finish(). */
final class Checks {
    private static final int NONE = SmokeWatch.NONE;
    private static final int[] NO_PLACE = {-1, Integer.MIN_VALUE, Integer.MAX_VALUE};

    private final String test;
    private int asked = 0;
    private int wrong = 0;

    Checks(String test) {
        this.test = test;
    }

    void due(String what, long want, long got) {
        asked++;
        if (want != got) {
            wrong++;
            System.out.println(test + ": " + what + " answered " + got + ", due is " + want);
        }
    }

    void due(String what, boolean want, boolean got) {
        due(what, want ? 1 : 0, got ? 1 : 0);
    }

    void same(String what, String want, String got) {
        asked++;
        if (!want.equals(got)) {
            wrong++;
            System.out.println(test + ": " + what + "\n  is  " + got + "\n  due " + want);
        }
    }

    /** A row that is asked for by places: these, and none ahead of the first or behind the last. */
    void row(String what, IntUnaryOperator at, int... want) {
        for (int k = 0; k < want.length; k++) {
            due(what + ", at " + k, want[k], at.applyAsInt(k));
        }
        due(what + ", behind the last", NONE, at.applyAsInt(want.length));
        for (int k : NO_PLACE) {
            due(what + ", at " + k, NONE, at.applyAsInt(k));
        }
    }

    /** The first and last value that are taken, and the first that are refused on both sides. */
    void bounds(String what, int refusal, int least, int most, IntUnaryOperator call) {
        for (int value : new int[] {least, most}) {
            int answer = call.applyAsInt(value);
            due(what + " " + value + " is taken (" + answer + ")", true, answer != refusal);
        }
        for (int value : new int[] {least - 1, most + 1, Integer.MIN_VALUE, Integer.MAX_VALUE}) {
            due(what + " " + value, refusal, call.applyAsInt(value));
        }
    }

    void finish() {
        System.out.println(test + ": " + asked + " answers, " + wrong + " wrong");
        if (wrong != 0) {
            System.exit(1);
        }
    }
}
