/** The wood, its towers and what they see at the edges: Term 1, promises 1 to 6 and 29 to 31. */
public final class WoodEdgesTest {
    private static final int NONE = SmokeWatch.NONE;
    private static final int LEAST = Integer.MIN_VALUE;
    private static final int MOST = Integer.MAX_VALUE;
    private static final int[][] ALL_ROUND = {{-1, -1}, {-1, 1}, {1, -1}, {1, 1}};
    private static final Checks CHECKS = new Checks("WoodEdgesTest");

    public static void main(String[] args) {
        atFirstAllIsMissing();
        rowNumbers();
        rowLengths();
        rowGround();
        rowMissing();
        rowGroundIsUsed();
        squareNumbers();
        newRowTakesAway();
        newRowTakesFires();
        newRowLeavesOthers();
        newRowIsAllNew();
        squarePlaces();
        squareGround();
        squareRefusedByLog();
        squareRefusedByFires();
        squareRefusedByCrew();
        squareLeavesAllElse();
        towerPlaces();
        towerHeights();
        towersUpTo8();
        towerAndTheLog();
        seeNoSuch();
        seeOwnAndBeside();
        seeAtHeight();
        seeAcrossTheWood();
        seeSlantedAllRound();
        seeByCorners();
        seeOverMissing();
        hiddenNoSuch();
        hiddenTheFirst();
        blindsEmptyAndFull();
        blindsFollow();
        bestNone();
        bestOfSeveral();
        bestOfRowsApart();
        bestForOneBlind();
        bestCountsBlindsAlone();
        CHECKS.finish();
    }

    // Promise 1: "No ROWS." Term 1: "At first all ROWS are missing."
    private static void atFirstAllIsMissing() {
        SmokeWatch x = new SmokeWatch();
        for (int n = 0; n < 256; n++) {
            CHECKS.due("new: crew " + n, NONE, x.crew(n / 16, n % 16));
        }
        CHECKS.due("new: squares there", 0, x.count(5));
        CHECKS.due("new: tower", NONE, x.tower(0, 0, 0));
        CHECKS.due("new: square", false, x.square(0, 0, 0, 1));
        CHECKS.due("new: report", NONE, x.report(0, 0, 0, 1, 0, 0));
    }

    // Term 1: "16 ROWS"
    private static void rowNumbers() {
        for (int n = 0; n <= 1; n++) {
            int length = n;
            CHECKS.bounds("row r, n " + n, 0, 0, 15, r -> Woods.num(new SmokeWatch().row(r, length, 0, 1)));
        }
    }

    // Term 1: "each missing or of 1 to 16 SQUARES"; promise 2: "n squares (0: it is missing)"
    private static void rowLengths() {
        CHECKS.bounds("row n", 0, 0, 16, n -> Woods.num(new SmokeWatch().row(3, n, 0, 1)));
        for (int n = 0; n <= 16; n++) {
            SmokeWatch x = new SmokeWatch();
            x.row(15, n, 0, 1);
            CHECKS.due("squares there of n " + n, n, x.count(5));
            CHECKS.due("last of n " + n, n == 0 ? NONE : 0, x.crew(15, n - 1));
            CHECKS.due("behind the last of n " + n, NONE, x.crew(15, n));
        }
        CHECKS.due("squares there of a full wood", 256, Woods.flat(16, 16).count(5));
    }

    // Term 1: "heights (-1,000 to 3,000) and MINUTES (1 to 60)"
    private static void rowGround() {
        CHECKS.bounds("row height", 0, -1000, 3000, h -> Woods.num(new SmokeWatch().row(0, 1, h, 1)));
        CHECKS.bounds("row minutes", 0, 1, 60, m -> Woods.num(new SmokeWatch().row(0, 1, 0, m)));
    }

    // Promise 2: "of n 0 height and minutes count for nothing"
    private static void rowMissing() {
        for (int wild : new int[] {LEAST, -1001, 0, 3001, MOST}) {
            SmokeWatch x = Woods.flat(2, 4);
            CHECKS.due("row missing, height " + wild, true, x.row(0, 0, wild, 1));
            CHECKS.due("row missing, minutes " + wild, true, x.row(1, 0, 0, wild));
            CHECKS.due("row missing, both " + wild, true, x.row(1, 0, wild, wild));
            CHECKS.due("rows missing", 0, x.count(5));
        }
    }

    /** From a row at -1,000 up to one at 3,000: its minutes, and a tenth of 4,000. */
    private static void rowGroundIsUsed() {
        SmokeWatch x = new SmokeWatch();
        x.row(0, 1, 3000, 60);
        x.row(1, 1, -1000, 1);
        x.crew(1, 0);
        x.crew(0, 0);
        CHECKS.due("highest from lowest", 460, x.minutes(0, 0, 0));
        CHECKS.due("lowest from highest", 1, x.minutes(1, 1, 0));
    }

    // Term 1: "its number is 16 r + c"
    private static void squareNumbers() {
        SmokeWatch x = Woods.flat(16, 16);
        int[][] corners = {{0, 0, 0}, {0, 15, 15}, {1, 0, 16}, {15, 0, 240}, {15, 15, 255}};
        for (int k = 0; k < corners.length; k++) {
            x.crew(corners[k][0], corners[k][1]);
            CHECKS.due("number of corner " + k, corners[k][2], x.place(k));
        }
    }

    // Term 1: "A new ROW (also a missing one) takes towers, the log, fires, crews and what can be
    // undone away"; promises 28 and 32: "behind a new ROW"
    private static void newRowTakesAway() {
        int[][] rows = {{0, 4, 0, 1}, {1, 4, 0, 1}, {15, 16, 3000, 60}, {0, 0, 0, 0}, {7, 0, 0, 0}};
        for (int[] row : rows) {
            SmokeWatch x = Woods.flat(2, 4);
            x.tower(1, 0, 10);
            Woods.glow(x, 0, 1, 0, 1);
            x.remark(5);
            x.begin(0);
            x.crew(1, 0);
            x.claim(0, 3);
            x.claim(1, 3);
            CHECKS.due("sent ahead of a new row", 2, x.send());
            CHECKS.due("new row", true, x.row(row[0], row[1], row[2], row[3]));
            for (int what = 0; what < 5; what++) {
                CHECKS.due("behind a new row: count " + what, 0, x.count(what));
            }
            CHECKS.due("behind a new row: see", NONE, x.see(0, 1, 0));
            CHECKS.due("behind a new row: log", 6, x.log(0, 0));
            CHECKS.due("behind a new row: log of the remark", 6, x.log(1, 0));
            CHECKS.due("behind a new row: fire", NONE, x.fire(0, 0));
            CHECKS.due("behind a new row: crew", NONE, x.place(0));
            CHECKS.due("behind a new row: undo", false, x.undo());
            CHECKS.due("behind a new row: sent", NONE, x.sent(0));
            newRowTakesClaims(x);
        }
    }

    /** Fires begun behind a new row have nothing of those with the same numbers ahead of it. */
    private static void newRowTakesFires() {
        SmokeWatch x = Woods.flat(1, 3);
        x.report(0, 0, 0, 0, 1, 0);
        x.report(0, 0, 1, 0, 1, 0);
        x.begin(0);
        x.out(0);
        x.begin(1);
        CHECKS.due("again ahead of a new row", 0, x.fire(1, 4));
        x.out(1);
        x.row(1, 3, 0, 1);
        for (int f = 0; f < 2; f++) {
            x.report(f, 0, 0, 0, 1, 0);
            CHECKS.due("fire behind a new row", f, x.begin(f));
            CHECKS.due("it burns", 0, x.fire(f, 0));
            CHECKS.due("it is again none", NONE, x.fire(f, 4));
            CHECKS.due("it has one sighting", 1, x.fire(f, 1));
        }
    }

    private static void newRowTakesClaims(SmokeWatch x) {
        x.row(3, 1, 0, 1);
        x.tower(3, 0, 0);
        CHECKS.due("behind a new row: the first place", 0, Woods.glow(x, 0, 1, 1, 0));
        CHECKS.due("behind a new row: the second place", 1, Woods.glow(x, 0, 1, 1, 0));
        CHECKS.due("behind a new row: all alone", NONE, x.check());
    }

    private static void newRowLeavesOthers() {
        SmokeWatch x = Woods.flat(3, 3);
        x.square(0, 1, 95, 7);
        x.row(2, 0, 0, 0);
        x.crew(0, 0);
        CHECKS.due("another row keeps its squares", 7 + 9, x.minutes(0, 0, 1));
        CHECKS.due("squares there without one row", 6, x.count(5));
    }

    /** A row that was there before leaves nothing behind: neither heights nor minutes nor squares. */
    private static void newRowIsAllNew() {
        SmokeWatch x = Woods.flat(1, 5);
        x.square(0, 1, 3000, 60);
        x.row(0, 1, 0, 1);
        CHECKS.due("shorter row", 1, x.count(5));
        CHECKS.due("shorter row's second", false, x.square(0, 1, 0, 1));
        x.row(0, 5, 0, 2);
        x.tower(0, 0, 1);
        x.crew(0, 0);
        CHECKS.due("longer row is seen along", 1, x.see(0, 0, 4));
        CHECKS.due("longer row has its minutes", 8, x.minutes(0, 0, 4));
        x.square(0, 1, 0, 60);
        x.row(0, 0, 0, 0);
        x.row(0, 2, 0, 3);
        x.crew(0, 0);
        CHECKS.due("row that was missing has its minutes", 3, x.minutes(0, 0, 1));
    }

    // Promise 3: "False, doing nothing: it's missing"
    private static void squarePlaces() {
        SmokeWatch x = new SmokeWatch();
        x.row(0, 16, 0, 1);
        x.row(14, 3, 0, 1);
        x.row(15, 1, 0, 1);
        CHECKS.bounds("square c of a full row", 0, 0, 15, c -> Woods.num(x.square(0, c, 0, 1)));
        CHECKS.bounds("square c of a short row", 0, 0, 2, c -> Woods.num(x.square(14, c, 0, 1)));
        CHECKS.bounds("square c of one", 0, 0, 0, c -> Woods.num(x.square(15, c, 0, 1)));
        CHECKS.bounds("square r", 0, 14, 15, r -> Woods.num(x.square(r, 0, 0, 1)));
        CHECKS.due("square of a missing row", false, x.square(7, 0, 0, 1));
        CHECKS.due("square (-1, 16) is not (0, 0)", false, x.square(-1, 16, 0, 1));
        CHECKS.due("square (1, -16) is not (0, 0)", false, x.square(1, -16, 0, 1));
    }

    // Promise 3: "or they are not as told"
    private static void squareGround() {
        SmokeWatch x = Woods.flat(1, 2);
        CHECKS.bounds("square height", 0, -1000, 3000, h -> Woods.num(x.square(0, 0, h, 1)));
        CHECKS.bounds("square minutes", 0, 1, 60, m -> Woods.num(x.square(0, 0, 0, m)));
        x.square(0, 0, -1000, 1);
        x.square(0, 1, 3000, 60);
        x.crew(0, 0);
        CHECKS.due("square's ground is used", 460, x.minutes(0, 0, 1));
    }

    // Promise 3: "or some place of the log .. is there"
    private static void squareRefusedByLog() {
        SmokeWatch x = Woods.flat(1, 3);
        x.tower(0, 0, 10);
        CHECKS.due("square with a tower", true, x.square(0, 1, 1, 1));
        Woods.glow(x, 0, 0, 0, 1);
        CHECKS.due("square with a sighting", false, x.square(0, 1, 1, 1));
        x.clear(0);
        CHECKS.due("square with an empty log", true, x.square(0, 1, 1, 1));
        x.remark(1);
        CHECKS.due("square with a remark", false, x.square(0, 1, 1, 1));
        x.undo();
        CHECKS.due("square with the remark undone", true, x.square(0, 1, 1, 1));
        for (int i = 0; i < 60; i++) {
            x.remark(i);
        }
        for (int i = 0; i < 59; i++) {
            x.clear(i);
        }
        CHECKS.due("square with the last place alone", false, x.square(0, 1, 1, 1));
        x.clear(59);
        CHECKS.due("square with all cleared", true, x.square(0, 1, 1, 1));
    }

    // Promise 3: "or .. a fire .. is there"
    private static void squareRefusedByFires() {
        SmokeWatch x = Woods.flat(1, 3);
        x.report(0, 0, 0, 0, 1, 0);
        x.begin(0);
        x.apart(0);
        x.clear(0);
        CHECKS.due("square with a fire alone", false, x.square(0, 1, 1, 1));
        x.undo();
        x.undo();
        x.undo();
        x.clear(0);
        CHECKS.due("square with the fire undone", true, x.square(0, 1, 1, 1));
    }

    // Promise 3: "or .. crew is there"
    private static void squareRefusedByCrew() {
        SmokeWatch x = Woods.flat(1, 3);
        x.crew(0, 2);
        CHECKS.due("square with a crew elsewhere", false, x.square(0, 0, 1, 1));
        x.undo();
        CHECKS.due("square with the crew undone", true, x.square(0, 0, 1, 1));
    }

    // Promise 3: "all else stays"
    private static void squareLeavesAllElse() {
        SmokeWatch x = Woods.flat(1, 4);
        x.tower(0, 3, 7);
        x.crew(0, 0);
        x.report(0, 0, 0, 0, 1, 0);
        x.begin(0);
        x.claim(0, 5);
        x.claim(1, 5);
        CHECKS.due("send ahead of square()", 2, x.send());
        x.undo();
        x.clear(0);
        x.undo();
        x.undo();
        x.undo();
        x.remark(1);
        x.clear(0);
        CHECKS.due("square", true, x.square(0, 1, 4, 9));
        CHECKS.due("square leaves towers", 1, x.count(0));
        CHECKS.due("square leaves acts", 2, x.count(4));
        CHECKS.due("square leaves squares", 4, x.count(5));
        CHECKS.due("square leaves sent", 0, x.sent(0));
        Woods.glow(x, 0, 1, 0, -1);
        Woods.glow(x, 0, 1, 0, -1);
        CHECKS.due("square leaves claims", 1, x.check());
        x.crew(0, 0);
        CHECKS.due("square leaves other squares", 9 + 1 + 1, x.minutes(0, 0, 3));
    }

    // Promise 4: "NONE, doing nothing: the square is missing"
    private static void towerPlaces() {
        SmokeWatch x = new SmokeWatch();
        x.row(0, 16, 0, 1);
        x.row(15, 2, 0, 1);
        CHECKS.bounds("tower c of a full row", NONE, 0, 15, c -> x.tower(0, c, 0));
        CHECKS.bounds("tower c of a short row", NONE, 0, 1, c -> x.tower(15, c, 0));
        CHECKS.bounds("tower r", NONE, 15, 15, r -> x.tower(r, 0, 0));
        CHECKS.due("tower on a missing row", NONE, x.tower(1, 0, 0));
        CHECKS.due("towers that stand", 6, x.count(0));
    }

    // Term 1: "a height 0 to 100 above it"
    private static void towerHeights() {
        SmokeWatch x = Woods.ridge(0, 24, 0);
        CHECKS.bounds("tower height", NONE, 0, 100, h -> x.tower(0, 0, h));
        // Out of the ridge the line from 100 to 0 has 25, that from 0 to 0 has 0.
        CHECKS.due("tower of 0", 0, x.see(0, 0, 2));
        CHECKS.due("tower of 100 over 24", 1, x.see(1, 0, 2));
        x.square(0, 1, 25, 1);
        CHECKS.due("tower of 100 over 25", 0, x.see(1, 0, 2));
    }

    // Term 1: "TOWERS, up to 8"
    private static void towersUpTo8() {
        SmokeWatch x = Woods.flat(1, 2);
        for (int t = 0; t < 8; t++) {
            CHECKS.due("no tower yet " + t, NONE, x.see(t, 0, 0));
            CHECKS.due("tower " + t, t, x.tower(0, 0, t));
        }
        CHECKS.due("ninth tower", NONE, x.tower(0, 0, 0));
        CHECKS.due("towers", 8, x.count(0));
        CHECKS.due("eighth tower sees", 1, x.see(7, 0, 1));
        CHECKS.due("ninth tower sees", NONE, x.see(8, 0, 1));
        x.row(1, 2, 0, 1);
        CHECKS.due("tower behind a new row", 0, x.tower(0, 0, 0));
    }

    // Promise 4: "or the log has a place that isn't nothing"
    private static void towerAndTheLog() {
        SmokeWatch x = Woods.flat(1, 3);
        x.crew(0, 0);
        CHECKS.due("tower with a crew", 0, x.tower(0, 0, 1));
        x.remark(0);
        CHECKS.due("tower with a remark", NONE, x.tower(0, 0, 1));
        x.clear(0);
        CHECKS.due("tower with an empty log", 1, x.tower(0, 0, 1));
        Woods.glow(x, 0, 0, 0, 1);
        CHECKS.due("tower with a sighting", NONE, x.tower(0, 0, 1));
        x.begin(0);
        x.apart(0);
        x.clear(0);
        CHECKS.due("tower with a fire that is gone", 2, x.tower(0, 0, 1));
        x.undo();
        CHECKS.due("tower with a sighting come back", NONE, x.tower(0, 0, 1));
    }

    // Promise 5: "NONE: no such tower, or it's missing"
    private static void seeNoSuch() {
        SmokeWatch x = Woods.flat(2, 3);
        CHECKS.due("see without towers", NONE, x.see(0, 0, 0));
        x.tower(0, 0, 10);
        x.tower(0, 1, 10);
        CHECKS.bounds("see t", NONE, 0, 1, t -> x.see(t, 1, 1));
        CHECKS.bounds("see r", NONE, 0, 1, r -> x.see(0, r, 1));
        CHECKS.bounds("see c", NONE, 0, 2, c -> x.see(0, 1, c));
    }

    // Term 1: "the same one; another one if no square, but these two, .. is missing or hides"
    private static void seeOwnAndBeside() {
        SmokeWatch x = Woods.flat(3, 3);
        for (int n = 0; n < 9; n++) {
            x.square(n / 3, n % 3, n == 4 ? -1000 : 3000, 1);
        }
        x.tower(1, 1, 0);
        for (int n = 0; n < 9; n++) {
            CHECKS.due("see own and beside " + n, 1, x.see(0, n / 3, n % 3));
            CHECKS.due("hidden own and beside " + n, NONE, x.hidden(0, n / 3, n % 3));
        }
        CHECKS.due("blinds own and beside", 0, x.blinds());
    }

    // Term 1: "its height is at or above the lower one of the two heights that the line .. has where
    // it comes into that square and where it goes out. (All by fractions.)"
    private static void seeAtHeight() {
        int[][] cases = {
            // eye's height, the other's, the least height between that hides
            {0, 0, 0}, {5, 5, 5}, {-7, -7, -7},
            {10, 0, 3}, {100, 0, 25}, {0, 40, 10}, {0, 10, 3},
            {-12, -22, -19}, {-22, -12, -19}, {-1, 1, 0}, {1, -1, 0},
            {3000, -1000, 0}, {-1000, 3000, 0}, {-1000, 2999, 0}, {-999, 3000, 1},
        };
        for (int[] c : cases) {
            SmokeWatch x = Woods.ridge(c[0], c[2] - 1, c[1]);
            x.tower(0, 0, 0);
            String what = "from " + c[0] + " to " + c[1];
            CHECKS.due(what + " over " + (c[2] - 1), 1, x.see(0, 0, 2));
            x.square(0, 1, c[2], 1);
            CHECKS.due(what + " over " + c[2], 0, x.see(0, 0, 2));
        }
    }

    /** The longest lines with the greatest falls and rises. */
    private static void seeAcrossTheWood() {
        SmokeWatch x = Woods.flat(16, 16);
        for (int n = 0; n < 256; n++) {
            x.square(n / 16, n % 16, -1000, 1);
        }
        x.square(0, 0, 3000, 1);
        x.tower(0, 0, 100);
        // 3,100 falls to -1,000 over 15 squares: out of the first at 3 / 30: 2,690; out of the last
        // between at 29 / 30: -863 1/3. The slanted line goes by as many squares.
        int[][] edges = {{0, 1, 0, 15, 2690}, {0, 14, 0, 15, -863}, {1, 0, 15, 0, 2690},
            {14, 0, 15, 0, -863}, {1, 1, 15, 15, 2690}, {14, 14, 15, 15, -863}};
        for (int[] e : edges) {
            String what = "across by (" + e[0] + ", " + e[1] + ")";
            x.square(e[0], e[1], e[4] - 1, 1);
            CHECKS.due(what + " seen", 1, x.see(0, e[2], e[3]));
            x.square(e[0], e[1], e[4], 1);
            CHECKS.due(what + " hidden", 16 * e[0] + e[1], x.hidden(0, e[2], e[3]));
            x.square(e[0], e[1], -1000, 1);
        }
    }

    /** From (3, 3) to a square one and two away: the line goes by two squares, whichever way it is. */
    private static void seeSlantedAllRound() {
        for (int[] s : ALL_ROUND) {
            seeSlanted(s[0], 2 * s[1], 0, s[1], s[0], s[1]);
            seeSlanted(2 * s[0], s[1], s[0], 0, s[0], s[1]);
        }
    }

    private static void seeSlanted(int down, int right, int nearDown, int nearRight, int farDown, int farRight) {
        SmokeWatch x = Woods.flat(7, 7);
        int near = 16 * (3 + nearDown) + 3 + nearRight;
        int far = 16 * (3 + farDown) + 3 + farRight;
        int to = 16 * (3 + down) + 3 + right;
        for (int n = 0; n < 16 * 7; n++) {
            boolean onLine = n == near || n == far || n == to || n == 16 * 3 + 3;
            x.square(n / 16, n % 16, onLine ? 0 : 3000, 1);
        }
        x.tower(3, 3, 100);
        String what = "slanted to " + to;
        // 100 falls to 0: out of the near one at half the way, out of the far one at 3 / 4.
        x.square(near / 16, near % 16, 49, 1);
        x.square(far / 16, far % 16, 24, 1);
        CHECKS.due(what, 1, x.see(0, to / 16, to % 16));
        x.square(far / 16, far % 16, 25, 1);
        CHECKS.due(what + " by the far one", far, x.hidden(0, to / 16, to % 16));
        x.square(near / 16, near % 16, 50, 1);
        CHECKS.due(what + " by the near one", near, x.hidden(0, to / 16, to % 16));
    }

    // Term 1: "goes through (some of its inside)"
    private static void seeByCorners() {
        SmokeWatch x = new SmokeWatch();
        x.row(0, 1, 0, 1);
        x.row(1, 2, 0, 1);
        x.row(2, 3, 0, 1);
        x.tower(0, 0, 10);
        CHECKS.due("by corners of missing squares", 1, x.see(0, 2, 2));
        x.square(1, 0, 3000, 1);
        x.square(2, 1, 3000, 1);
        CHECKS.due("by corners of high squares", 1, x.see(0, 2, 2));
        x.square(1, 1, 3, 1);
        CHECKS.due("by the middle of the diagonal", 17, x.hidden(0, 2, 2));
        SmokeWatch y = Woods.flat(2, 4);
        y.square(0, 2, 3000, 1);
        y.square(1, 1, 3000, 1);
        y.tower(0, 0, 12);
        // To (1, 3) the line comes by the corner at half its way: (0, 1), then (1, 2), not the others.
        CHECKS.due("by a corner at half the way", 1, y.see(0, 1, 3));
        y.square(0, 1, 6, 1);
        CHECKS.due("into the corner at 6", 1, y.hidden(0, 1, 3));
        y.square(0, 1, 5, 1);
        y.square(1, 2, 2, 1);
        CHECKS.due("out of the corner at 2", 18, y.hidden(0, 1, 3));
        y.square(1, 2, 1, 1);
        CHECKS.due("below the line on both sides", 1, y.see(0, 1, 3));
    }

    // Term 1: "is missing"
    private static void seeOverMissing() {
        SmokeWatch x = new SmokeWatch();
        x.row(0, 16, 0, 1);
        x.row(1, 15, 0, 1);
        x.row(2, 16, 0, 1);
        x.row(4, 1, 0, 1);
        x.tower(0, 15, 100);
        x.tower(0, 14, 100);
        x.tower(2, 0, 100);
        CHECKS.due("over a short row's end", 0, x.see(0, 2, 15));
        CHECKS.due("by a short row's last", 1, x.see(1, 2, 14));
        CHECKS.due("over a missing row", 0, x.see(2, 4, 0));
        CHECKS.due("hidden by a short row's end", 31, x.hidden(0, 2, 15));
        CHECKS.due("hidden by a missing row", 48, x.hidden(2, 4, 0));
        CHECKS.due("a missing square is not told of", NONE, x.see(0, 1, 15));
        CHECKS.due("nor is it hidden", NONE, x.hidden(0, 1, 15));
    }

    // Promise 6: "NONE: it's seen, or as see()"
    private static void hiddenNoSuch() {
        SmokeWatch x = Woods.ridge(0, 50, 0);
        CHECKS.due("hidden without towers", NONE, x.hidden(0, 0, 2));
        x.tower(0, 0, 0);
        x.tower(0, 0, 1);
        CHECKS.bounds("hidden t", NONE, 0, 1, t -> x.hidden(t, 0, 2));
        CHECKS.bounds("hidden r", NONE, 0, 0, r -> x.hidden(0, r, 2));
        CHECKS.bounds("hidden c", NONE, 2, 2, c -> x.hidden(0, 0, c));
        CHECKS.due("hidden and seen", NONE, x.hidden(0, 0, 1));
    }

    // Promise 6: "The first square on the line, from the tower on"
    private static void hiddenTheFirst() {
        SmokeWatch x = Woods.ridge(0, 0, 39, 60, 20, 0);
        x.tower(0, 0, 20);
        x.tower(0, 5, 20);
        CHECKS.due("first from the left", 2, x.hidden(0, 0, 5));
        CHECKS.due("first from the right", 4, x.hidden(1, 0, 0));
        CHECKS.due("up to the higher one", NONE, x.hidden(0, 0, 3));
        SmokeWatch y = new SmokeWatch();
        y.row(0, 3, 0, 1);
        y.row(1, 1, 3000, 1);
        y.row(3, 3, 0, 1);
        y.tower(0, 0, 0);
        CHECKS.due("one that hides, then a missing one", 16, y.hidden(0, 3, 0));
        y.tower(3, 0, 0);
        CHECKS.due("a missing one, then one that hides", 32, y.hidden(1, 0, 0));
    }

    // Promise 30: "NONE: there is none"
    private static void blindsEmptyAndFull() {
        SmokeWatch x = new SmokeWatch();
        CHECKS.due("blinds of no wood", 0, x.blinds());
        CHECKS.row("blind of no wood", x::blind);
        SmokeWatch full = Woods.flat(16, 16);
        CHECKS.due("blinds of a full wood", 256, full.blinds());
        CHECKS.due("first blind", 0, full.blind(0));
        CHECKS.due("last blind", 255, full.blind(255));
        CHECKS.due("behind the last blind", NONE, full.blind(256));
        SmokeWatch seen = Woods.flat(1, 2);
        seen.tower(0, 0, 0);
        CHECKS.due("blinds of a wood that is seen", 0, seen.blinds());
        CHECKS.row("blind of a wood that is seen", seen::blind);
    }

    private static void blindsFollow() {
        SmokeWatch x = new SmokeWatch();
        x.row(0, 5, 0, 1);
        x.row(2, 2, 0, 1);
        x.square(0, 2, 100, 1);
        CHECKS.due("blinds without towers", 7, x.blinds());
        x.tower(0, 0, 10);
        CHECKS.due("blinds of one tower", 4, x.blinds());
        CHECKS.row("blind of one tower", x::blind, 3, 4, 32, 33);
        x.tower(0, 4, 10);
        CHECKS.row("blind of two towers", x::blind, 32, 33);
        x.square(0, 1, 100, 1);
        CHECKS.row("blind behind a change of the ground", x::blind, 32, 33);
        x.square(0, 3, 200, 1);
        x.square(0, 1, 200, 1);
        CHECKS.row("blind between two walls", x::blind, 2, 32, 33);
        x.row(2, 1, 0, 1);
        CHECKS.row("blind behind a new row", x::blind, 0, 1, 2, 3, 4, 32);
    }

    // Promise 31: "NONE: there is none of these"
    private static void bestNone() {
        CHECKS.due("best of no wood", NONE, new SmokeWatch().best());
        SmokeWatch x = Woods.flat(1, 2);
        CHECKS.due("best ahead of a tower", 0, x.best());
        x.tower(0, 0, 0);
        CHECKS.due("best of a wood that is seen", NONE, x.best());
        SmokeWatch full = Woods.ridge(0, 100, 0, 0);
        for (int t = 0; t < 8; t++) {
            full.tower(0, 0, 0);
        }
        CHECKS.due("best with eight towers", 1, full.best());
    }

    // Promise 31: "a tower of height 10 more"; "the least number"
    private static void bestOfSeveral() {
        // Out of the middle one the line from 10 to 0 has 2.5, that to 1 has 3.25, that to 2 has 4.
        CHECKS.due("best over 2", 0, Woods.ridge(0, 2, 0).best());
        CHECKS.due("best over 3", 1, Woods.ridge(0, 3, 0).best());
        CHECKS.due("best over 3 to 1", 0, Woods.ridge(0, 3, 1).best());
        CHECKS.due("best over 4 to 2", 1, Woods.ridge(0, 4, 2).best());
        CHECKS.due("best of several", 3, bestBehindWall(0));
        CHECKS.due("best is the wall itself", 2, bestBehindWall(-1));
        SmokeWatch last = new SmokeWatch();
        last.row(15, 16, 0, 1);
        last.row(13, 16, 0, 1);
        for (int c = 0; c < 16; c++) {
            last.square(13, c, c % 2 == 0 ? 3000 : 0, 1);
        }
        CHECKS.due("best of the last row", 240, last.best());
    }

    /** Each of two rows apart is seen from its own squares alone: none sees all. */
    private static void bestOfRowsApart() {
        int[][] cases = {{3, 3, 0}, {2, 3, 32}, {3, 2, 0}, {1, 1, 0}, {1, 16, 32}};
        for (int[] c : cases) {
            SmokeWatch x = new SmokeWatch();
            x.row(0, c[0], 0, 1);
            x.row(2, c[1], 0, 1);
            CHECKS.due("best of rows of " + c[0] + " and " + c[1], c[2], x.best());
        }
    }

    private static void bestForOneBlind() {
        CHECKS.due("one square without a tower", 0, Woods.flat(1, 1).best());
        SmokeWatch first = Woods.ridge(0, 100, 0);
        first.tower(0, 2, 0);
        CHECKS.row("the first is blind alone", first::blind, 0);
        CHECKS.due("best for the first", 0, first.best());
        SmokeWatch last = Woods.ridge(0, 100, 0);
        last.tower(0, 0, 0);
        CHECKS.row("the last is blind alone", last::blind, 2);
        CHECKS.due("best for the last", 1, last.best());
    }

    /** Blind are the squares behind the wall of 100; from it 110 falls to the last: 27.5 at (0, 3). */
    private static int bestBehindWall(int more) {
        SmokeWatch x = Woods.ridge(0, 0, 100, 28 + more, 0);
        x.tower(0, 0, 10);
        return x.best();
    }

    // Promise 31: "would see most of these"
    private static void bestCountsBlindsAlone() {
        SmokeWatch x = Woods.ridge(0, 0, 0, 0, 0, 400, 300, 0);
        x.tower(0, 0, 10);
        CHECKS.row("blind behind the peak", x::blind, 6, 7);
        // The peak would see seven squares of all, but one blind one; behind it both are seen.
        CHECKS.due("best of the blind ones", 6, x.best());
    }
}
