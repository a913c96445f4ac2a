/**
 * Made-up runs of calls, the same ones each time: each answer is that of SlowWatch. The runs are
 * longer than the 512 calls that the document speaks of, since the whole state is asked for now and
 * then; the class keeps no count of its calls.
 */
public final class CompareTest {
    private static final Checks CHECKS = new Checks("CompareTest");
    // How often a call is made, by what the run is about: anything, fires, crews, the ground.
    private static final int[][] WEIGHTS = {
        {0, 3, 3, 6, 6, 12, 4, 2, 4, 5, 5, 8, 8, 4, 2, 2, 6, 5, 3, 3, 4, 4, 3, 3, 3, 2, 2, 1, 1, 0, 4, 2, 6, 2},
        {0, 1, 2, 2, 2, 24, 8, 1, 4, 5, 2, 10, 8, 5, 4, 3, 6, 4, 5, 4, 1, 1, 1, 1, 1, 2, 2, 0, 0, 0, 12, 6, 9, 2},
        {0, 1, 2, 2, 2, 10, 6, 1, 1, 2, 1, 3, 8, 2, 1, 1, 3, 1, 1, 1, 9, 9, 5, 9, 9, 9, 9, 0, 0, 0, 1, 1, 6, 2},
        {1, 20, 8, 20, 20, 4, 1, 1, 4, 4, 4, 1, 2, 1, 1, 1, 1, 1, 1, 3, 2, 2, 2, 3, 3, 1, 1, 5, 5, 2, 1, 1, 5, 2},
    };

    private final int about;
    private final SmokeWatch fast = new SmokeWatch();
    private final Calls fastCalls = new Calls(fast);
    private final Calls slowCalls = new Calls(new SlowWatch());
    private final String run;
    private long seed;
    private int rows;
    private int columns;
    private int minutesUsed;

    private CompareTest(int number) {
        about = number % WEIGHTS.length;
        run = "run " + number;
        seed = 77_000_003L * number + 12345;
        for (int i = 0; i < 5; i++) {
            below(2);
        }
    }

    public static void main(String[] args) {
        int runs = args.length > 0 ? Integer.parseInt(args[0]) : 240;
        for (int number = 0; number < runs; number++) {
            new CompareTest(number).play();
        }
        CHECKS.finish();
    }

    private int below(int n) {
        seed = seed * 6364136223846793005L + 1442695040888963407L;
        return (int) ((seed >>> 33) % n);
    }

    private int between(int low, int high) {
        return low + below(high - low + 1);
    }

    /** Mostly a number of 0 to n - 1; now and then one of the edges or far outside. */
    private int index(int n) {
        int dice = below(40);
        if (dice == 0) {
            return -1;
        }
        if (dice == 1) {
            return n;
        }
        if (dice == 2) {
            return below(2) == 0 ? Integer.MAX_VALUE : Integer.MIN_VALUE;
        }
        return n <= 0 ? 0 : below(n);
    }

    private void play() {
        boolean big = below(6) == 0;
        rows = big ? 16 : between(2, 8);
        columns = big ? 16 : between(2, 8);
        minutesUsed = between(1, 6);
        makeWood();
        for (int call = 0; call < 300; call++) {
            String name = Calls.NAMES[choose()];
            compare(name, arguments(name));
            if (about != 3 && call % 29 == 0) {
                compareState();
            }
        }
        compareState();
        for (int call = 0; call < 55; call++) {
            compare("undo", new int[0]);
            compare("log", new int[] {below(12), below(7)});
            compare("fire", new int[] {below(6), below(5)});
        }
        compareState();
    }

    private int choose() {
        int[] weights = WEIGHTS[about];
        int all = 0;
        for (int w : weights) {
            all += w;
        }
        int dice = below(all);
        int chosen = 0;
        while (dice >= weights[chosen]) {
            dice -= weights[chosen];
            chosen++;
        }
        return chosen;
    }

    private void makeWood() {
        for (int r = 0; r < rows; r++) {
            int length = below(5) == 0 ? below(columns + 1) : columns;
            compare("row", new int[] {r, length, between(-20, 20), between(1, 4)});
        }
        for (int i = below(rows * columns + 1); i > 0; i--) {
            compare("square", arguments("square"));
        }
        for (int i = between(0, 6); i > 0; i--) {
            compare("tower", arguments("tower"));
        }
        for (int i = about == 2 ? between(1, 8) : 0; i > 0; i--) {
            compare("crew", arguments("crew"));
        }
    }

    private int height() {
        int dice = below(20);
        if (dice == 0) {
            return between(-1002, 3002);
        }
        return dice < 8 ? between(-20, 60) : between(-4, 8);
    }

    private int[] arguments(String name) {
        switch (name) {
            case "row":
                return new int[] {index(16), below(20) == 0 ? between(-1, 18) : columns, height(), between(0, 5)};
            case "square":
                return new int[] {index(rows), index(columns), height(), below(30) == 0 ? between(-1, 62) : between(1, 5)};
            case "tower":
                return new int[] {index(rows), index(columns), below(4) == 0 ? between(-1, 101) : between(0, 20)};
            case "see":
            case "hidden":
                return new int[] {index(fast.count(0)), index(rows), index(columns)};
            case "sight":
                return sightArguments();
            case "report":
                return new int[] {index(rows), index(columns), minute(), aim(), aim(), side()};
            case "remark":
                return new int[] {between(-3, 3)};
            case "clear":
            case "begin":
            case "apart":
                return new int[] {index(fast.count(1) + 1)};
            case "log":
                return new int[] {index(fast.count(1) + 2), index(7)};
            case "squares":
                return new int[] {index(fast.count(1) + 1), index(12)};
            case "join":
            case "claim":
                return new int[] {index(fast.count(1) + 1), name.equals("claim") ? index(3) : index(fast.count(2))};
            default:
                return otherArguments(name);
        }
    }

    private int[] otherArguments(String name) {
        switch (name) {
            case "out":
            case "next":
            case "sent":
                return new int[] {index(fast.count(2) + 1)};
            case "fire":
                return new int[] {index(fast.count(2)), index(5)};
            case "patch":
                return new int[] {index(fast.count(2)), index(8)};
            case "fewest":
                int from = below(minutesUsed);
                return new int[] {from, from + below(3)};
            case "crew":
                return new int[] {index(rows), index(columns)};
            case "place":
                return new int[] {index(fast.count(3) + 1)};
            case "move":
            case "minutes":
                return new int[] {index(fast.count(3)), index(rows), index(columns)};
            case "way":
                return new int[] {index(fast.count(3)), index(rows), index(columns), index(8)};
            case "blind":
                return new int[] {index(10)};
            case "count":
                return new int[] {index(6)};
            default:
                return new int[0];
        }
    }

    private int minute() {
        return below(40) == 0 ? between(-1, 1) * 10000 : below(minutesUsed);
    }

    private int aim() {
        int dice = below(30);
        return dice == 0 ? between(-52, 52) : dice < 8 ? between(-5, 5) : between(-1, 1);
    }

    private int side() {
        return below(10) == 0 ? between(-1, 402) : between(0, 120);
    }

    private int[] sightArguments() {
        int haze = Float.floatToRawIntBits(below(1001) / 1000f) + between(-1, 1);
        if (below(12) == 0) {
            haze = (int) (seed >>> 13);
        }
        int reach = below(10) == 0 ? between(-1, 42) : between(1, 12);
        int kind = below(30) == 0 ? between(-1, 4) : below(4);
        return new int[] {kind, index(fast.count(0)), minute(), aim(), aim(), side(), reach, haze};
    }

    private void compare(String name, int[] a) {
        StringBuilder told = new StringBuilder(run).append(' ').append(name);
        for (int x : a) {
            told.append(' ').append(x);
        }
        CHECKS.due(told.toString(), slowCalls.ask(name, a), fastCalls.ask(name, a));
    }

    private void compareState() {
        for (int i = 0; i < 60; i++) {
            for (int what = 0; what < 7; what++) {
                compare("log", new int[] {i, what});
            }
            int size = fast.log(i, 3);
            for (int k = 0; k <= size; k += 3) {
                compare("squares", new int[] {i, k});
            }
        }
        for (int f = 0; f <= fast.count(2); f++) {
            for (int what = 0; what < 5; what++) {
                compare("fire", new int[] {f, what});
            }
            for (int k = 0; k <= Math.max(0, fast.fire(f, 2)); k += 2) {
                compare("patch", new int[] {f, k});
            }
            compare("next", new int[] {f});
            compare("sent", new int[] {f});
        }
        for (int k = 0; k < 9; k++) {
            compare("place", new int[] {k});
        }
        for (int what = 0; what < 6; what++) {
            compare("count", new int[] {what});
        }
        for (int from = 0; from < minutesUsed; from++) {
            compare("fewest", new int[] {from, from});
        }
        compare("check", new int[0]);
        compare("blinds", new int[0]);
        compare("send", new int[0]);
        if (fast.count(5) < 70) {
            compare("best", new int[0]);
        }
    }
}
