/**
 * Whole woods of 16 rows, made to be hard: what the towers see and what hides, the blind squares, the
 * best new square, and the minutes and ways to all squares are those of SlowWatch. The runs of
 * CompareTest are in smaller and smoother woods for the most part.
 */
public final class RoughTest {
    private static final Checks CHECKS = new Checks("RoughTest");
    private static final int AREA = 256;
    private static final int TOWERS = 8;
    private static final int CREWS = 2;
    private static final int WAYS = 2;

    private enum Lie {
        /** Any height and any MINUTES. */
        WILD,
        /** Heights so near each other that many lines just touch and many ways are of one sum. */
        NEAR,
        /** A slope over the whole wood: where a line comes in it is lower, or where it goes out. */
        SLOPE,
        /** The highest and the lowest, a minute or an hour: sums are made less often. */
        CLIFFS,
        /** Walls with a gap by turns at each end: the way round is long, over the walls is dear. */
        WALLS
    }

    private final Lie lie;
    private final SmokeWatch fast = new SmokeWatch();
    private final Calls fastCalls = new Calls(fast);
    private final Calls slowCalls = new Calls(new SlowWatch());
    private long seed;

    private RoughTest(Lie lie, int number) {
        this.lie = lie;
        seed = 31L * number + lie.ordinal() + 1;
    }

    public static void main(String[] args) {
        int woods = args.length > 0 ? Integer.parseInt(args[0]) : 2;
        for (int number = 0; number < woods; number++) {
            for (Lie lie : Lie.values()) {
                new RoughTest(lie, number).play();
            }
        }
        CHECKS.finish();
    }

    private void play() {
        makeWood();
        for (int t = 0; t < TOWERS; t++) {
            compare("tower", below(16), below(16), below(101));
        }
        for (int k = 0; k < CREWS; k++) {
            compare("crew", below(16), below(16));
        }
        for (int n = 0; n < AREA; n++) {
            compareSquare(n);
        }
        compare("blinds");
        compare("best");
        for (int k = 0; k < fast.count(3); k++) {
            for (int i = 0; i < WAYS; i++) {
                compareWay(k, below(AREA));
            }
        }
    }

    private int below(int n) {
        seed = seed * 6364136223846793005L + 1442695040888963407L;
        return (int) ((seed >>> 33) % n);
    }

    private void makeWood() {
        for (int r = 0; r < 16; r++) {
            boolean whole = lie == Lie.WALLS || below(6) > 0;
            compare("row", r, whole ? 16 : below(17), 0, 1);
        }
        for (int n = 0; n < AREA; n++) {
            compare("square", n / 16, n % 16, height(n / 16, n % 16), minutes());
        }
    }

    private int height(int r, int c) {
        return switch (lie) {
            case WILD -> below(4001) - 1000;
            case NEAR -> below(21) - 10;
            case SLOPE -> 100 * (r + c) - 1000 + below(5);
            case CLIFFS -> below(4) == 0 ? 3000 : -1000;
            case WALLS -> r % 2 == 1 && c != (r % 4 == 1 ? 15 : 0) ? 3000 : 0;
        };
    }

    private int minutes() {
        return switch (lie) {
            case WILD -> 1 + below(60);
            case NEAR, WALLS -> 1 + below(2);
            case SLOPE -> 1;
            case CLIFFS -> below(2) == 0 ? 1 : 60;
        };
    }

    private void compareSquare(int n) {
        for (int t = 0; t < fast.count(0); t++) {
            compare("see", t, n / 16, n % 16);
            compare("hidden", t, n / 16, n % 16);
        }
        for (int k = 0; k < fast.count(3); k++) {
            compare("minutes", k, n / 16, n % 16);
        }
        if (n % 8 == 0) {
            compare("blind", n / 8);
        }
    }

    /** The steps at both ends, where all is near, and each ninth between. */
    private void compareWay(int k, int to) {
        int last = 0;
        while (fast.way(k, to / 16, to % 16, last + 1) != SmokeWatch.NONE) {
            last++;
        }
        for (int i = 0; i <= last + 1; i += i < 9 || i > last - 9 ? 1 : 9) {
            compare("way", k, to / 16, to % 16, i);
        }
    }

    private void compare(String name, int... a) {
        StringBuilder told = new StringBuilder(lie.toString()).append(' ').append(name);
        for (int x : a) {
            told.append(' ').append(x);
        }
        CHECKS.due(told.toString(), slowCalls.ask(name, a), fastCalls.ask(name, a));
    }
}
