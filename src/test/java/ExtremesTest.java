import java.util.ArrayList;
import java.util.Arrays;
import java.util.List;

/**
 * Every call with the least and greatest numbers, and those at the document's bounds, in each place:
 * none throws, and each answers as the second writing of the document does.
 */
public final class ExtremesTest {
    private static final int LEAST = Integer.MIN_VALUE;
    private static final int MOST = Integer.MAX_VALUE;
    private static final int[] EDGES = {
        LEAST, LEAST + 1, -1001, -1000, -51, -50, -2, -1, 0, 1, 2, 3, 4, 5, 7, 8, 9, 10, 15, 16, 17, 19, 20, 40, 41,
        50, 51, 59, 60, 61, 100, 101, 255, 256, 400, 401, 3000, 3001, 9999, 10000,
        0x3F800000, 0x3F800001, 0x7F800000, 0x7FC00000, MOST - 1, MOST
    };
    private static final int[] FEW = {LEAST, -1, 0, 1, 16, MOST};
    private static final Checks CHECKS = new Checks("ExtremesTest");

    private final List<String> state;
    private Calls fast;
    private Calls slow;

    private ExtremesTest(List<String> state) {
        this.state = state;
        makeAnew();
    }

    public static void main(String[] args) {
        for (List<String> state : List.of(List.<String>of(), bare(), busy(), full())) {
            ExtremesTest test = new ExtremesTest(state);
            for (String name : Calls.NAMES) {
                test.tryAll(name, Calls.parametersOf(name));
            }
        }
        CHECKS.finish();
    }

    // ---- states, as calls

    private static List<String> bare() {
        return new ArrayList<>(List.of("row 0 5 0 1", "row 1 3 0 1", "row 2 5 0 1", "row 4 5 0 1", "row 15 16 0 1",
            "square 2 2 6 9", "tower 0 0 10", "tower 4 4 3"));
    }

    private static List<String> busy() {
        List<String> calls = bare();
        calls.addAll(List.of("sight 3 0 1 1 1 0 0 0", "sight 1 1 1 -1 0 50 3 0", "sight 2 0 2 0 1 100 9 1053609165",
            "report 2 0 3 -1 1 80", "remark 42", "sight 0 0 4 1 0 60 0 0", "sight 0 0 5 1 0 60 0 0",
            "begin 0", "join 3 0", "begin 2", "begin 1", "out 1", "apart 1", "begin 5",
            "crew 0 0", "crew 2 3", "send", "move 1 2 4", "claim 0 5", "claim 3 5", "claim 6 5"));
        return calls;
    }

    private static List<String> full() {
        List<String> calls = new ArrayList<>();
        for (int r = 0; r < 4; r++) {
            calls.add("row " + r + " 4 0 1");
        }
        for (int k = 0; k < 8; k++) {
            calls.add("tower " + k % 4 + " " + k / 4 + " " + 10 * k);
            calls.add("crew " + k % 4 + " " + (3 - k / 4));
        }
        for (int i = 0; i < 60; i++) {
            calls.add("sight 3 " + i % 8 + " " + i + " 1 1 400 0 0");
        }
        for (int f = 0; f < 20; f++) {
            calls.add("begin " + f);
        }
        return calls;
    }

    private void makeAnew() {
        fast = new Calls(new SmokeWatch());
        slow = new Calls(new SlowWatch());
        for (String call : state) {
            String[] words = call.split(" ");
            int[] arguments = Arrays.stream(words).skip(1).mapToInt(Integer::parseInt).toArray();
            fast.ask(words[0], arguments);
            slow.ask(words[0], arguments);
        }
    }

    // ---- calls

    /** Arguments that are as told, as far as the state allows. */
    private static int[] ordinary(String name) {
        return switch (name) {
            case "row" -> new int[] {3, 2, 0, 1};
            case "square" -> new int[] {0, 1, 5, 5};
            case "tower" -> new int[] {0, 1, 5};
            case "sight" -> new int[] {2, 0, 7, 1, 1, 50, 9, 0x3F000000};
            case "report" -> new int[] {0, 0, 7, 1, 1, 50};
            case "fewest" -> new int[] {0, 9};
            case "move", "minutes", "see", "hidden" -> new int[] {0, 2, 2};
            case "way" -> new int[] {0, 2, 2, 1};
            default -> new int[] {1, 0};
        };
    }

    private void tryAll(String name, int parameters) {
        int[] base = Arrays.copyOf(ordinary(name), parameters);
        tryOne(name, base.clone());
        for (int p = 0; p < parameters; p++) {
            for (int edge : EDGES) {
                int[] arguments = base.clone();
                arguments[p] = edge;
                tryOne(name, arguments);
            }
            for (int q = 0; q < p; q++) {
                tryBoth(name, base, p, q);
            }
        }
        for (int wild : FEW) {
            int[] arguments = new int[parameters];
            Arrays.fill(arguments, wild);
            tryOne(name, arguments);
        }
    }

    private void tryBoth(String name, int[] base, int p, int q) {
        for (int first : FEW) {
            for (int second : FEW) {
                int[] arguments = base.clone();
                arguments[p] = first;
                arguments[q] = second;
                tryOne(name, arguments);
            }
        }
    }

    private void tryOne(String name, int[] arguments) {
        int want = slow.ask(name, arguments);
        CHECKS.due(name + " " + Arrays.toString(arguments), want, fast.ask(name, arguments));
        compareCounts(name, arguments);
        if (want != SmokeWatch.NONE && changes(name)) {
            makeAnew();
        }
    }

    private void compareCounts(String name, int[] arguments) {
        for (int what = 0; what < 6; what++) {
            CHECKS.due("count " + what + " behind " + name + " " + Arrays.toString(arguments),
                slow.ask("count", what), fast.ask("count", what));
        }
    }

    private static boolean changes(String name) {
        return switch (name) {
            case "row", "square", "tower", "sight", "report", "remark", "clear", "join", "begin", "apart", "office", "out",
                "crew", "move", "send", "claim", "undo" -> true;
            default -> false;
        };
    }
}
