/** The log and its sightings at the edges: Term 2, promises 7 to 12. */
public final class LogEdgesTest {
    private static final int NONE = SmokeWatch.NONE;
    private static final int LEAST = Integer.MIN_VALUE;
    private static final int MOST = Integer.MAX_VALUE;
    private static final int BEARING = 0;
    private static final int SHORT = 1;
    private static final int FAINT = 2;
    private static final int GLOW = 3;
    private static final Checks CHECKS = new Checks("LogEdgesTest");

    public static void main(String[] args) {
        kinds();
        towers();
        minutes();
        directions();
        sides();
        reaches();
        reachCountsForNothing();
        hazes();
        hazeCountsForNothing();
        hazeIsCut();
        reachIsCut();
        reportPlaces();
        reportAims();
        remarks();
        sixtyPlaces();
        firstFreePlace();
        squaresAhead();
        squaresAside();
        squaresWithin();
        squaresThere();
        squaresSeen();
        squaresNoSuch();
        squaresOfAFullWood();
        clearNoSuch();
        clearJoined();
        logNoSuch();
        logOfNothing();
        logOfRemark();
        logOfSightings();
        CHECKS.finish();
    }

    /** A tower in the middle of a flat wood. */
    private static SmokeWatch watch() {
        SmokeWatch x = Woods.flat(5, 5);
        x.tower(2, 2, 10);
        return x;
    }

    // Promise 7: "A SIGHTING of kind 0 to 3"
    private static void kinds() {
        SmokeWatch x = watch();
        CHECKS.bounds("kind", NONE, 0, 3, kind -> x.sight(kind, 0, 0, 1, 0, 0, 1, 0));
        CHECKS.due("a report is not by sight()", NONE, x.sight(4, 0, 0, 1, 0, 0, 1, 0));
        CHECKS.due("a remark is not by sight()", NONE, x.sight(5, 0, 0, 1, 0, 0, 1, 0));
        CHECKS.due("nor is nothing", NONE, x.sight(6, 0, 0, 1, 0, 0, 1, 0));
    }

    // Promise 7: "by tower t .. NONE, doing nothing: something is not as told"
    private static void towers() {
        SmokeWatch none = Woods.flat(1, 1);
        SmokeWatch x = Woods.flat(1, 1);
        for (int t = 0; t < 8; t++) {
            x.tower(0, 0, 0);
        }
        for (int kind = 0; kind < 4; kind++) {
            int k = kind;
            CHECKS.due("kind " + kind + " without towers", NONE, none.sight(kind, 0, 0, 1, 0, 0, 1, 0));
            CHECKS.bounds("kind " + kind + ", t", NONE, 0, 7, t -> x.sight(k, t, 0, 1, 0, 0, 1, 0));
            CHECKS.due("its tower", 7, x.log(2 * kind + 1, 2));
        }
    }

    // Term 2: "a MINUTE (0 to 9,999)"
    private static void minutes() {
        for (int kind = 0; kind < 4; kind++) {
            int k = kind;
            SmokeWatch x = watch();
            CHECKS.bounds("kind " + kind + ", minute", NONE, 0, 9999, m -> x.sight(k, 0, m, 1, 0, 0, 1, 0));
            CHECKS.due("first minute", 0, x.log(0, 1));
            CHECKS.due("last minute", 9999, x.log(1, 1));
        }
        SmokeWatch x = watch();
        CHECKS.bounds("report minute", NONE, 0, 9999, m -> x.report(0, 0, m, 1, 0, 0));
        CHECKS.due("last minute of a report", 9999, x.log(1, 1));
    }

    // Term 2: "a DIRECTION (down, right: -50 to 50 each, not both 0)"
    private static void directions() {
        SmokeWatch x = watch();
        for (int kind = 0; kind < 4; kind++) {
            int k = kind;
            CHECKS.bounds("kind " + kind + ", down", NONE, -50, 50, d -> x.sight(k, 0, 0, d, 0, 0, 1, 0));
            CHECKS.bounds("kind " + kind + ", right", NONE, -50, 50, r -> x.sight(k, 0, 0, 0, r, 0, 1, 0));
            CHECKS.due("kind " + kind + ", both 0", NONE, x.sight(k, 0, 0, 0, 0, 0, 1, 0));
        }
        CHECKS.due("down alone is taken", 16, x.sight(0, 0, 0, 1, 0, 0, 0, 0));
        CHECKS.due("right alone is taken", 17, x.sight(0, 0, 0, 0, -1, 0, 0, 0));
        CHECKS.due("both at the end are taken", 18, x.sight(0, 0, 0, -50, 50, 0, 0, 0));
        CHECKS.row("squares up right by 50", k -> x.squares(18, k), 4, 19);
        CHECKS.due("one too far, the other not", NONE, x.sight(0, 0, 0, -51, 50, 0, 0, 0));
        CHECKS.due("the other too far, one not", NONE, x.sight(0, 0, 0, -50, 51, 0, 0, 0));
    }

    // Term 2: "a SIDE (0 to 400)"
    private static void sides() {
        SmokeWatch x = watch();
        for (int kind = 0; kind < 4; kind++) {
            int k = kind;
            CHECKS.bounds("kind " + kind + ", side", NONE, 0, 400, s -> x.sight(k, 0, 0, 1, 0, s, 1, 0));
        }
        CHECKS.bounds("report side", NONE, 0, 400, s -> x.report(0, 0, 0, 1, 0, s));
    }

    // Term 2: "a REACH (1 to 40)"
    private static void reaches() {
        SmokeWatch x = watch();
        CHECKS.bounds("short reach", NONE, 1, 40, reach -> x.sight(SHORT, 0, 0, 1, 0, 0, reach, 0));
        CHECKS.due("least reach", 1, x.log(0, 5));
        CHECKS.due("most reach", 40, x.log(1, 5));
        CHECKS.bounds("faint reach", NONE, 1, 40, reach -> x.sight(FAINT, 0, 0, 1, 0, 0, reach, 0));
        CHECKS.due("least reach of a faint one", 1, x.log(2, 5));
        CHECKS.due("most reach of a faint one", 40, x.log(3, 5));
    }

    // Promise 7: "(else they count for nothing)"
    private static void reachCountsForNothing() {
        SmokeWatch x = watch();
        for (int reach : new int[] {LEAST, -1, 0, 1, 40, 41, MOST}) {
            for (int kind : new int[] {BEARING, GLOW}) {
                int i = x.sight(kind, 0, 0, 1, 0, 0, reach, 0);
                CHECKS.due("kind " + kind + " with reach " + reach, true, i != NONE);
                CHECKS.due("its reach", NONE, x.log(i, 5));
                CHECKS.due("its squares", 2, x.log(i, 3));
            }
        }
    }

    // Term 2: "HAZE (a float of 0 to 1)"; promise 7: "haze that is no number, too"
    private static void hazes() {
        float[] taken = {0f, -0f, Float.MIN_VALUE, Float.MIN_NORMAL, 0.5f, Math.nextDown(1f), 1f};
        float[] refused = {Math.nextUp(1f), 2f, 100f, Float.MAX_VALUE, Float.POSITIVE_INFINITY, -Float.MIN_VALUE,
            -0.5f, -1f, Float.NEGATIVE_INFINITY, Float.NaN};
        int[] noNumbers = {0x7F800001, 0x7FFFFFFF, 0x7FC00000, 0xFF800001, 0xFFC00000, 0xFFFFFFFF};
        SmokeWatch x = watch();
        for (float haze : taken) {
            int i = x.sight(FAINT, 0, 0, 1, 0, 0, 20, Float.floatToRawIntBits(haze));
            CHECKS.due("haze " + haze + " is taken", true, i != NONE);
            CHECKS.due("reach left by haze " + haze, 20 - 20 * (int) (haze * 100) / 100, x.log(i, 5));
        }
        for (float haze : refused) {
            CHECKS.due("haze " + haze, NONE, x.sight(FAINT, 0, 0, 1, 0, 0, 20, Float.floatToRawIntBits(haze)));
        }
        for (int bits : noNumbers) {
            CHECKS.due("haze of bits " + bits, NONE, x.sight(FAINT, 0, 0, 1, 0, 0, 20, bits));
        }
        CHECKS.due("hazes taken", taken.length, x.count(1));
    }

    private static void hazeCountsForNothing() {
        SmokeWatch x = watch();
        int[] hazes = {LEAST, LEAST + 1, -1, Float.floatToRawIntBits(1f), Float.floatToRawIntBits(Float.NaN), MOST};
        for (int haze : hazes) {
            for (int kind : new int[] {BEARING, SHORT, GLOW}) {
                int i = x.sight(kind, 0, 0, 1, 0, 0, 2, haze);
                CHECKS.due("kind " + kind + " with haze " + haze, true, i != NONE);
                CHECKS.due("its reach", kind == SHORT ? 2 : NONE, x.log(i, 5));
                CHECKS.due("its squares", 2, x.log(i, 3));
            }
        }
    }

    private static int reachLeft(int reach, float haze) {
        SmokeWatch x = watch();
        return x.log(x.sight(FAINT, 0, 0, 1, 0, 0, reach, Float.floatToRawIntBits(haze)), 5);
    }

    // Term 2: "h is HAZE * 100 (as floats) cut to a whole number"
    private static void hazeIsCut() {
        // Of 40 each h of 5 more takes 2 more; as floats 0.35 * 100 and 0.55 * 100 are whole numbers.
        CHECKS.due("h 34", 40 - 13, reachLeft(40, Math.nextDown(0.35f)));
        CHECKS.due("h 35", 40 - 14, reachLeft(40, 0.35f));
        CHECKS.due("h 99", 40 - 39, reachLeft(40, 0.99f));
        CHECKS.due("h 99 of nearly 1", 40 - 39, reachLeft(40, 0.9999f));
        CHECKS.due("h 100", 0, reachLeft(40, 1f));
        CHECKS.due("h 0 of nearly 0.01", 40, reachLeft(40, 0.0099f));
        for (int percent = 0; percent <= 100; percent++) {
            float haze = percent / 100f;
            for (float near : new float[] {Math.nextDown(haze), haze, Math.nextUp(haze)}) {
                if (near >= 0f && near <= 1f) {
                    CHECKS.due("haze " + near, 40 - 40 * (int) (near * 100f) / 100, reachLeft(40, near));
                }
            }
        }
    }

    // Term 2: "the REACH is less by REACH * h / 100 (cut)"
    private static void reachIsCut() {
        CHECKS.due("1 less 0.99 cut", 1, reachLeft(1, 0.995f));
        CHECKS.due("1 less 1", 0, reachLeft(1, 1f));
        CHECKS.due("40 less 0.8 cut", 40, reachLeft(40, 0.025f));
        CHECKS.due("40 less 1.2 cut", 39, reachLeft(40, 0.035f));
        CHECKS.due("3 less 1.5 cut", 2, reachLeft(3, 0.5f));
        SmokeWatch x = watch();
        int i = x.sight(FAINT, 0, 0, 1, 0, 400, 40, Float.floatToRawIntBits(1f));
        CHECKS.due("squares of no reach", 0, x.log(i, 3));
        CHECKS.due("no fire of no squares", NONE, x.begin(i));
        int j = x.sight(FAINT, 0, 0, 1, 0, 0, 2, Float.floatToRawIntBits(0.5f));
        CHECKS.row("squares of the reach left", k -> x.squares(j, k), 50);
    }

    // Promise 8: "A REPORT of a caller on a square: likewise."
    private static void reportPlaces() {
        SmokeWatch x = new SmokeWatch();
        x.row(0, 16, 0, 1);
        x.row(15, 2, 0, 1);
        CHECKS.bounds("report c of a full row", NONE, 0, 15, c -> x.report(0, c, 0, 1, 0, 0));
        CHECKS.bounds("report c of a short row", NONE, 0, 1, c -> x.report(15, c, 0, 1, 0, 0));
        CHECKS.bounds("report r", NONE, 15, 15, r -> x.report(r, 0, 0, 1, 0, 0));
        CHECKS.due("report of a missing row", NONE, x.report(1, 0, 0, 1, 0, 0));
        CHECKS.due("report of no wood", NONE, new SmokeWatch().report(0, 0, 0, 1, 0, 0));
    }

    private static void reportAims() {
        SmokeWatch x = watch();
        CHECKS.bounds("report down", NONE, -50, 50, d -> x.report(0, 0, 0, d, 0, 0));
        CHECKS.bounds("report right", NONE, -50, 50, r -> x.report(0, 0, 0, 0, r, 0));
        CHECKS.due("report, both 0", NONE, x.report(0, 0, 0, 0, 0, 0));
        CHECKS.due("report, both at the end", 4, x.report(0, 0, 0, 50, 50, 0));
        CHECKS.row("report's squares", k -> x.squares(4, k), 17, 34, 51, 68);
    }

    // Promise 9: "A REMARK: its place, likewise" (any number)
    private static void remarks() {
        SmokeWatch x = new SmokeWatch();
        int[] numbers = {LEAST, -1, 0, 1, 9999, 10000, MOST};
        for (int i = 0; i < numbers.length; i++) {
            CHECKS.due("remark " + numbers[i], i, x.remark(numbers[i]));
            CHECKS.due("number of remark " + i, numbers[i], x.log(i, 1));
        }
    }

    // Term 2: "up to 60 places"; promises 7 to 9: "or there are 60"
    private static void sixtyPlaces() {
        SmokeWatch x = watch();
        for (int i = 0; i < 60; i += 3) {
            CHECKS.due("sight at " + i, i, Woods.glow(x, 0, i, 1, 0));
            CHECKS.due("report at " + (i + 1), i + 1, x.report(0, 0, i, 1, 0, 0));
            CHECKS.due("remark at " + (i + 2), i + 2, x.remark(i));
        }
        for (int kind = 0; kind < 4; kind++) {
            CHECKS.due("61st, kind " + kind, NONE, x.sight(kind, 0, 0, 1, 0, 0, 1, 0));
        }
        CHECKS.due("61st, a report", NONE, x.report(0, 0, 0, 1, 0, 0));
        CHECKS.due("61st, a remark", NONE, x.remark(0));
        CHECKS.due("places in use", 60, x.count(1));
        CHECKS.due("acts that can be undone", 50, x.count(4));
        CHECKS.due("the last place", 5, x.log(59, 0));
    }

    // Promise 7: "the place of the log, the first that has nothing"
    private static void firstFreePlace() {
        for (int hole : new int[] {0, 1, 31, 58, 59}) {
            SmokeWatch x = watch();
            for (int i = 0; i < 60; i++) {
                x.remark(i);
            }
            x.clear(hole);
            CHECKS.due("sight into " + hole, hole, Woods.glow(x, 0, 0, 1, 0));
            x.clear(hole);
            CHECKS.due("report into " + hole, hole, x.report(0, 0, 0, 1, 0, 0));
            x.clear(hole);
            CHECKS.due("remark into " + hole, hole, x.remark(0));
        }
        SmokeWatch x = watch();
        for (int i = 0; i < 5; i++) {
            x.remark(i);
        }
        x.clear(3);
        x.clear(1);
        CHECKS.due("the first of two", 1, x.remark(0));
        CHECKS.due("the second of two", 3, x.remark(0));
        CHECKS.due("behind both", 5, x.remark(0));
    }

    // Term 2: "v * DIRECTION .. is above 0"; "but the eye's own"
    private static void squaresAhead() {
        SmokeWatch x = watch();
        x.sight(BEARING, 0, 0, -1, 0, 400, 0, 0);
        // Rows 0 and 1 alone: of the own row v * DIRECTION is 0. In row 1 two aside of one is 200.
        CHECKS.row("squares above", k -> x.squares(0, k), 0, 1, 2, 3, 4, 16, 17, 18, 19, 20);
        x.sight(BEARING, 0, 0, 1, 1, 400, 0, 0);
        // Aside 2 of 0 along is not above 0; aside 3 of 1 along is 300.
        CHECKS.row("squares below right", k -> x.squares(1, k),
            20, 35, 36, 50, 51, 52, 65, 66, 67, 68);
    }

    // Term 2: "100 times the size of .. is at most SIDE times that"
    private static void squaresAside() {
        SmokeWatch x = Woods.flat(2, 16);
        x.tower(0, 8, 100);
        x.sight(GLOW, 0, 0, 1, 0, 400, 0, 0);
        CHECKS.row("side 400: four aside of one", k -> x.squares(0, k), 20, 21, 22, 23, 24, 25, 26, 27, 28);
        x.sight(GLOW, 0, 0, 1, 0, 399, 0, 0);
        CHECKS.row("side 399: three aside of one", k -> x.squares(1, k), 21, 22, 23, 24, 25, 26, 27);
        x.sight(GLOW, 0, 0, 1, 0, 100, 0, 0);
        CHECKS.row("side 100: one aside of one", k -> x.squares(2, k), 23, 24, 25);
        x.sight(GLOW, 0, 0, 1, 0, 99, 0, 0);
        CHECKS.row("side 99: none aside", k -> x.squares(3, k), 24);
        x.sight(GLOW, 0, 0, 1, 3, 0, 0, 0);
        CHECKS.row("side 0: on the line", k -> x.squares(4, k), 27);
        x.sight(GLOW, 0, 0, 50, 49, 1, 0, 0);
        // (1, 9): aside 50 - 49, along 99: 100 is above 99.
        CHECKS.row("side 1: not quite", k -> x.squares(5, k));
        x.sight(GLOW, 0, 0, 50, 49, 2, 0, 0);
        CHECKS.row("side 2: on the other side of it", k -> x.squares(6, k), 25);
    }

    // Term 2: "of SHORT and FAINT v * v is at most the REACH squared"
    private static void squaresWithin() {
        SmokeWatch x = Woods.flat(16, 16);
        x.tower(0, 0, 100);
        // 9 + 16 is 25, 25 + 144 is 169; 225 + 225 is above 21 * 21.
        int[][] lines = {{3, 4, 5}, {5, 12, 13}, {15, 15, 22}};
        for (int[] line : lines) {
            int to = 16 * line[0] + line[1];
            int reach = line[2];
            int within = x.sight(SHORT, 0, 0, line[0], line[1], 0, reach, 0);
            int less = x.sight(SHORT, 0, 0, line[0], line[1], 0, reach - 1, 0);
            int faint = x.sight(FAINT, 0, 0, line[0], line[1], 0, reach, 0);
            CHECKS.due("within " + reach, true, lastSquare(x, within) == to);
            CHECKS.due("not within " + (reach - 1), false, lastSquare(x, less) == to);
            CHECKS.due("faint within " + reach, true, lastSquare(x, faint) == to);
        }
        int far = x.sight(SHORT, 0, 0, 1, 1, 400, 40, 0);
        CHECKS.due("all within 40", 255, x.log(far, 3));
        int one = x.sight(SHORT, 0, 0, 1, 1, 400, 1, 0);
        CHECKS.row("within 1", k -> x.squares(one, k), 1, 16);
    }

    private static int lastSquare(SmokeWatch x, int i) {
        return x.squares(i, x.log(i, 3) - 1);
    }

    // Term 2: "SQUARES are those there"
    private static void squaresThere() {
        SmokeWatch x = new SmokeWatch();
        x.row(0, 3, 0, 1);
        x.row(2, 2, 0, 1);
        x.tower(0, 0, 100);
        x.sight(GLOW, 0, 0, 1, 1, 400, 0, 0);
        CHECKS.row("glow's squares that are there", k -> x.squares(0, k), 1, 2, 32, 33);
        x.sight(BEARING, 0, 0, 1, 1, 400, 0, 0);
        CHECKS.row("bearing's squares that are there", k -> x.squares(1, k), 1, 2);
        x.report(2, 1, 0, -1, 0, 100);
        CHECKS.row("report's squares that are there", k -> x.squares(2, k), 0, 1, 2);
        x.sight(GLOW, 0, 0, -1, 0, 400, 0, 0);
        CHECKS.row("none out of the wood", k -> x.squares(3, k));
    }

    // Term 2: "SEEN (not asked of GLOW and REPORT)"
    private static void squaresSeen() {
        SmokeWatch x = Woods.ridge(0, 0, 50, 0, 0);
        x.tower(0, 0, 10);
        for (int kind = 0; kind < 3; kind++) {
            int i = x.sight(kind, 0, 0, 0, 1, 0, 40, 0);
            CHECKS.row("seen alone, kind " + kind, k -> x.squares(i, k), 1, 2);
        }
        x.sight(GLOW, 0, 0, 0, 1, 0, 1, 0);
        CHECKS.row("glow of what is hidden", k -> x.squares(3, k), 1, 2, 3, 4);
        x.report(0, 4, 0, 0, -1, 0);
        CHECKS.row("report of what is hidden", k -> x.squares(4, k), 0, 1, 2, 3);
    }

    // Promise 12: "NONE: there is none"
    private static void squaresNoSuch() {
        SmokeWatch x = watch();
        Woods.glow(x, 0, 0, 1, 0);
        x.remark(0);
        CHECKS.bounds("squares i", NONE, 0, 0, i -> x.squares(i, 0));
        CHECKS.row("squares", k -> x.squares(0, k), 50, 66);
        CHECKS.row("squares of a remark", k -> x.squares(1, k));
        CHECKS.row("squares of nothing", k -> x.squares(2, k));
        CHECKS.row("squares of the last place", k -> x.squares(59, k));
        x.clear(0);
        CHECKS.row("squares of a cleared place", k -> x.squares(0, k));
    }

    private static void squaresOfAFullWood() {
        SmokeWatch x = Woods.flat(16, 16);
        x.report(0, 0, 0, 1, 1, 400);
        CHECKS.due("all squares but one", 255, x.log(0, 3));
        CHECKS.due("the first", 1, x.squares(0, 0));
        CHECKS.due("the last", 255, x.squares(0, 254));
        CHECKS.due("behind the last", NONE, x.squares(0, 255));
        CHECKS.due("far behind the last", NONE, x.squares(0, 256));
    }

    // Promise 10: "False, doing nothing: it has nothing, there is none such"
    private static void clearNoSuch() {
        SmokeWatch x = watch();
        CHECKS.due("clear of an empty log", false, x.clear(0));
        for (int i = 0; i < 60; i++) {
            x.remark(i);
        }
        CHECKS.bounds("clear", 0, 0, 59, i -> Woods.num(x.clear(i)));
        CHECKS.due("cleared places", 58, x.count(1));
        CHECKS.due("the first has nothing again", 6, x.log(0, 0));
        CHECKS.due("the last has nothing again", 6, x.log(59, 0));
        CHECKS.due("clear twice", false, x.clear(0));
    }

    // Promise 10: "or a SIGHTING that is JOINED to a fire"
    private static void clearJoined() {
        SmokeWatch x = Woods.crossing();
        CHECKS.due("clear one that is free", true, x.clear(3));
        x.begin(0);
        x.join(1, 0);
        CHECKS.due("clear one that began a fire", false, x.clear(0));
        CHECKS.due("clear one that was joined", false, x.clear(1));
        x.out(0);
        CHECKS.due("clear one of a fire that is out", false, x.clear(0));
        x.undo();
        x.apart(0);
        CHECKS.due("clear one that left", true, x.clear(0));
        CHECKS.due("clear one that stayed", false, x.clear(1));
        CHECKS.due("clear the only place of a fire left", true, x.apart(1) && x.clear(1));
    }

    // Promise 11: "NONE where there is none such"
    private static void logNoSuch() {
        SmokeWatch x = watch();
        for (int what = 0; what < 7; what++) {
            for (int i : new int[] {-1, 60, LEAST, MOST}) {
                CHECKS.due("log of place " + i + ", " + what, NONE, x.log(i, what));
            }
        }
        Woods.glow(x, 0, 1, 1, 0);
        for (int what : new int[] {-1, 7, LEAST, MOST}) {
            CHECKS.due("log of a sighting, " + what, NONE, x.log(0, what));
        }
    }

    // Promise 11: "of nothing 0 alone"
    private static void logOfNothing() {
        SmokeWatch x = new SmokeWatch();
        for (int i : new int[] {0, 1, 59}) {
            CHECKS.due("kind of nothing at " + i, 6, x.log(i, 0));
            for (int what : new int[] {1, 2, 3, 4, 5, 6, 7, -1, LEAST, MOST}) {
                CHECKS.due("log of nothing at " + i + ", " + what, NONE, x.log(i, what));
            }
        }
    }

    // Promise 11: "of a REMARK 0 and 1"
    private static void logOfRemark() {
        SmokeWatch x = new SmokeWatch();
        x.remark(-1);
        x.remark(77);
        CHECKS.due("kind of a remark", 5, x.log(0, 0));
        CHECKS.due("number of a remark", -1, x.log(0, 1));
        CHECKS.due("number of another remark", 77, x.log(1, 1));
        for (int what : new int[] {2, 3, 4, 5, 6, 7, -1, LEAST, MOST}) {
            CHECKS.due("log of a remark, " + what, NONE, x.log(1, what));
        }
    }

    // Promise 11: "2 its tower (NONE of a REPORT), .. 4 its fire (NONE), 5 its REACH as haze left it
    // (of SHORT and FAINT; else NONE), 6 how many fires it FITS"
    private static void logOfSightings() {
        SmokeWatch x = watch();
        x.sight(BEARING, 0, 1, 1, 0, 0, 7, 7);
        x.sight(SHORT, 0, 2, 1, 0, 0, 1, 7);
        x.sight(FAINT, 0, 3, 1, 0, 0, 40, Float.floatToRawIntBits(1f));
        x.sight(GLOW, 0, 4, 1, 0, 0, 7, 7);
        x.report(2, 2, 5, 1, 0, 0);
        x.begin(4);
        x.begin(3);
        int[][] want = {
            {0, 1, 0, 2, NONE, NONE, 2},
            {1, 2, 0, 1, NONE, 1, 2},
            {2, 3, 0, 0, NONE, 0, 0},
            {3, 4, 0, 2, 1, NONE, 0},
            {4, 5, NONE, 2, 0, NONE, 0},
        };
        for (int i = 0; i < want.length; i++) {
            for (int what = 0; what < 7; what++) {
                CHECKS.due("log " + i + ", " + what, want[i][what], x.log(i, what));
            }
        }
    }
}
