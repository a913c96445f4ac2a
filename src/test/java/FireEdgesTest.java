/** Fires and claims at the edges: Term 3, promises 13 to 21, 32 and 33. */
public final class FireEdgesTest {
    private static final int NONE = SmokeWatch.NONE;
    private static final int LEAST = Integer.MIN_VALUE;
    private static final int MOST = Integer.MAX_VALUE;
    private static final Checks CHECKS = new Checks("FireEdgesTest");

    public static void main(String[] args) {
        joinNoSuch();
        joinInNone();
        joinSameTowerAndMinute();
        joinCallers();
        joinPatch();
        joinBurnsAlone();
        beginNoSuch();
        beginRefused();
        firesUpTo20Ever();
        apartNoSuch();
        apartOfOut();
        apartOfLast();
        officeEmpty();
        officeJustOne();
        officeInTurn();
        officeBeginsAnew();
        officeFull();
        outNoSuch();
        outTwice();
        fireNoSuch();
        fireHowItIs();
        againOfOutAlone();
        againByPatchWhenOut();
        againLatestByNumber();
        middles();
        patchNoSuch();
        patchOfAFullWood();
        fewestOfNone();
        fewestMinutes();
        fewestUpTo10();
        fewestWithoutSquares();
        fewestOneTowerAndMinute();
        fewestWithPatches();
        fewestOfWhatIsJoined();
        nextNoSuch();
        nextOfOne();
        nextByEachDirection();
        nextAtTheWidth();
        nextLastOfAll();
        nextSide();
        nextAsBearing();
        claimNoSuch();
        claimAtFirst();
        checkEmpty();
        checkFirst();
        checkWithThoseAhead();
        checkOfTowerAndMinute();
        CHECKS.finish();
    }

    // Promise 13: "SIGHTING i is JOINED to fire f, if it FITS"
    private static void joinNoSuch() {
        SmokeWatch x = Woods.crossing();
        CHECKS.due("join without fires", false, x.join(1, 0));
        x.begin(0);
        x.remark(7);
        for (int i : new int[] {-1, 60, LEAST, MOST, 4, 5, 59}) {
            CHECKS.due("join of place " + i, false, x.join(i, 0));
        }
        for (int f : new int[] {-1, 1, 19, 20, LEAST, MOST}) {
            CHECKS.due("join to fire " + f, false, x.join(1, f));
        }
        CHECKS.due("join", true, x.join(1, 0));
    }

    // Term 3: "it is in none"
    private static void joinInNone() {
        SmokeWatch x = Woods.crossing();
        x.begin(0);
        x.begin(1);
        CHECKS.due("join its own fire", false, x.join(0, 0));
        CHECKS.due("join another fire", false, x.join(0, 1));
        CHECKS.due("one in a fire fits none", 0, x.log(0, 6));
        x.apart(0);
        CHECKS.due("one that left fits", 1, x.log(0, 6));
        CHECKS.due("one that left joins", true, x.join(0, 1));
    }

    // Term 3: "no SIGHTING of it has the same tower and the same MINUTE"
    private static void joinSameTowerAndMinute() {
        SmokeWatch x = Woods.flat(3, 3);
        x.tower(0, 0, 10);
        x.tower(0, 0, 10);
        x.sight(3, 0, 5, 1, 1, 400, 0, 0);
        x.sight(3, 0, 5, 1, 1, 400, 0, 0);
        x.sight(3, 0, 6, 1, 1, 400, 0, 0);
        x.sight(3, 1, 5, 1, 1, 400, 0, 0);
        x.sight(0, 0, 5, 1, 1, 400, 0, 0);
        x.sight(1, 0, 5, 1, 1, 400, 9, 0);
        x.sight(2, 0, 5, 1, 1, 400, 9, 0);
        x.begin(0);
        CHECKS.due("same tower and minute", false, x.join(1, 0));
        for (int i = 4; i <= 6; i++) {
            CHECKS.due("same tower and minute, another kind " + i, false, x.join(i, 0));
        }
        CHECKS.due("same tower, another minute", true, x.join(2, 0));
        CHECKS.due("another tower, same minute", true, x.join(3, 0));
        x.apart(0);
        CHECKS.due("same as one that left", true, x.join(1, 0));
        CHECKS.due("the one that left has its like there now", false, x.join(0, 0));
    }

    // Term 3: "(a caller is no tower)"
    private static void joinCallers() {
        SmokeWatch x = Woods.flat(3, 3);
        x.tower(0, 0, 10);
        for (int i = 0; i < 3; i++) {
            x.report(0, 0, 5, 1, 1, 400);
        }
        x.sight(3, 0, 5, 1, 1, 400, 0, 0);
        x.begin(0);
        for (int i = 1; i < 4; i++) {
            CHECKS.due("same minute as a caller " + i, true, x.join(i, 0));
        }
        CHECKS.due("all of them", 4, x.fire(0, 1));
    }

    // Term 3: "the PATCH with it is not empty"
    private static void joinPatch() {
        SmokeWatch x = Woods.flat(2, 6);
        x.report(0, 0, 0, 0, 1, 0);
        x.report(0, 4, 1, 0, 1, 0);
        x.report(0, 5, 2, 0, -1, 0);
        x.report(1, 0, 3, 0, 1, 0);
        x.begin(0);
        CHECKS.due("no square in common", false, x.join(3, 0));
        CHECKS.due("one square in common", true, x.join(1, 0));
        CHECKS.row("patch of one square", k -> x.patch(0, k), 5);
        CHECKS.due("in common with each, not with both", false, x.join(2, 0));
        CHECKS.due("fits none", 0, x.log(2, 6));
        x.apart(1);
        CHECKS.due("in common with what is left", true, x.join(2, 0));
        CHECKS.row("patch of what is left", k -> x.patch(0, k), 1, 2, 3, 4);
    }

    // Term 3: "FITS a fire that BURNS"
    private static void joinBurnsAlone() {
        SmokeWatch x = Woods.crossing();
        x.begin(0);
        CHECKS.due("fits one that burns", 1, x.log(1, 6));
        x.out(0);
        CHECKS.due("fits one that is out", 0, x.log(1, 6));
        CHECKS.due("join one that is out", false, x.join(1, 0));
        x.undo();
        x.apart(0);
        CHECKS.due("fits one that is gone", 0, x.log(1, 6));
        CHECKS.due("join one that is gone", false, x.join(1, 0));
        CHECKS.due("not even with what it had", false, x.join(0, 0));
    }

    // Promise 14: "NONE, doing nothing: no such"
    private static void beginNoSuch() {
        SmokeWatch x = Woods.flat(1, 2);
        for (int i = 0; i < 59; i++) {
            x.remark(i);
        }
        x.report(0, 0, 0, 0, 1, 0);
        for (int i : new int[] {-1, 0, 58, 60, LEAST, MOST}) {
            CHECKS.due("begin of place " + i, NONE, x.begin(i));
        }
        CHECKS.due("begin of the last place", 0, x.begin(59));
        x.clear(0);
        CHECKS.due("begin of nothing", NONE, x.begin(0));
    }

    // Promise 14: "it is in one, it has no SQUARES"
    private static void beginRefused() {
        SmokeWatch x = Woods.crossing();
        x.begin(0);
        x.join(1, 0);
        CHECKS.due("begin of one that began", NONE, x.begin(0));
        CHECKS.due("begin of one that was joined", NONE, x.begin(1));
        x.out(0);
        CHECKS.due("begin of one in a fire that is out", NONE, x.begin(1));
        x.undo();
        x.apart(1);
        CHECKS.due("begin of one that left", 1, x.begin(1));
        int empty = Woods.glow(x, 0, 9, 0, -1);
        CHECKS.due("no squares", 0, x.log(empty, 3));
        CHECKS.due("begin without squares", NONE, x.begin(empty));
        CHECKS.due("fires", 2, x.count(2));
    }

    // Term 3: "FIRES, up to 20 ever"; promise 14: "or there were 20"
    private static void firesUpTo20Ever() {
        SmokeWatch x = Woods.flat(1, 2);
        for (int i = 0; i < 21; i++) {
            x.report(0, 0, i, 0, 1, 0);
        }
        for (int f = 0; f < 20; f++) {
            CHECKS.due("fire " + f, f, x.begin(f));
        }
        CHECKS.due("21st", NONE, x.begin(20));
        x.apart(0);
        CHECKS.due("21st with one that is gone", NONE, x.begin(0));
        x.out(1);
        CHECKS.due("21st with one that is out", NONE, x.begin(20));
        CHECKS.due("fires ever", 20, x.count(2));
        CHECKS.due("the last one burns", 0, x.fire(19, 0));
        CHECKS.due("there is none behind", NONE, x.fire(20, 0));
        x.undo();
        x.undo();
        x.undo();
        CHECKS.due("20th anew", 19, x.begin(20));
        CHECKS.due("21st anew", NONE, x.begin(19));
    }

    // Promise 15: "False, doing nothing: it is in none"
    private static void apartNoSuch() {
        SmokeWatch x = Woods.crossing();
        x.remark(1);
        x.begin(0);
        for (int i : new int[] {-1, 1, 4, 5, 59, 60, LEAST, MOST}) {
            CHECKS.due("apart of place " + i, false, x.apart(i));
        }
        CHECKS.due("apart", true, x.apart(0));
        CHECKS.due("apart twice", false, x.apart(0));
    }

    // Promise 15: "or in one that is OUT"
    private static void apartOfOut() {
        SmokeWatch x = Woods.crossing();
        x.begin(0);
        x.join(1, 0);
        x.out(0);
        CHECKS.due("apart of out, the first", false, x.apart(0));
        CHECKS.due("apart of out, the second", false, x.apart(1));
        CHECKS.due("both are in it", 2, x.fire(0, 1));
        x.undo();
        CHECKS.due("apart of one that burns again", true, x.apart(0));
    }

    // Term 3: "GONE (none is JOINED any more, unless it's OUT)"
    private static void apartOfLast() {
        SmokeWatch x = Woods.crossing();
        x.begin(0);
        x.join(1, 0);
        x.apart(0);
        CHECKS.due("one left: burns", 0, x.fire(0, 0));
        CHECKS.row("one left: patch", k -> x.patch(0, k), 18, 34, 50, 66);
        x.apart(1);
        int[] gone = {2, 0, 0, NONE, NONE};
        for (int what = 0; what < 5; what++) {
            CHECKS.due("gone, " + what, gone[what], x.fire(0, what));
        }
        CHECKS.row("gone: patch", k -> x.patch(0, k));
        CHECKS.due("gone: out", false, x.out(0));
        CHECKS.due("gone: next", NONE, x.next(0));
        CHECKS.due("gone: ever", 1, x.count(2));
        CHECKS.due("gone: undone", true, x.undo());
        CHECKS.due("gone: burns again", 0, x.fire(0, 0));
    }

    // Promise 16: "till there is none: how many"
    private static void officeEmpty() {
        CHECKS.due("office of no wood", 0, new SmokeWatch().office());
        SmokeWatch x = Woods.crossing();
        CHECKS.due("office without fires", 0, x.office());
        CHECKS.due("office without fires is no act", 4, x.count(4));
        x.begin(0);
        x.out(0);
        CHECKS.due("office with one that is out", 0, x.office());
        x.undo();
        CHECKS.due("office", 2, x.office());
        CHECKS.due("an act each", 7, x.count(4));
        CHECKS.due("office again", 0, x.office());
        CHECKS.due("no more acts", 7, x.count(4));
    }

    // Promise 16: "that FITS just one fire"
    private static void officeJustOne() {
        SmokeWatch x = Woods.flat(1, 3);
        for (int i = 0; i < 3; i++) {
            x.report(0, 0, i, 0, 1, 0);
        }
        x.begin(0);
        x.begin(1);
        CHECKS.due("one that fits two", 2, x.log(2, 6));
        CHECKS.due("office of one that fits two", 0, x.office());
        x.out(1);
        CHECKS.due("one that fits one", 1, x.log(2, 6));
        CHECKS.due("office of one that fits one", 1, x.office());
        CHECKS.due("it is in that", 0, x.log(2, 4));
    }

    // Promise 16: "the first SIGHTING (by places) .. and so on"
    private static void officeInTurn() {
        SmokeWatch x = Woods.flat(3, 5);
        x.report(1, 0, 0, 0, 1, 0);
        // A square that both of the fires have, then one that makes it fit but one.
        x.report(0, 4, 0, 1, 0, 0);
        x.report(0, 2, 0, 1, 0, 0);
        x.report(0, 3, 0, 1, 0, 0);
        x.report(1, 0, 0, 0, 1, 0);
        x.begin(0);
        x.begin(4);
        x.join(2, 1);
        // Place 1 fits fire 0 alone, since fire 1 is (1, 2) alone; then place 3 fits none.
        CHECKS.due("place 1 fits", 1, x.log(1, 6));
        CHECKS.due("place 3 fits", 1, x.log(3, 6));
        CHECKS.due("office in turn", 1, x.office());
        CHECKS.due("the first by places", 0, x.log(1, 4));
        CHECKS.due("the other one is left", NONE, x.log(3, 4));
        x.undo();
        x.undo();
        // Place 2 has left: both columns fit both fires until one of them is sure.
        CHECKS.due("office of none that is sure", 0, x.office());
        x.join(3, 0);
        CHECKS.due("office goes back to the first place", 1, x.office());
        CHECKS.due("place 1 in the other fire", 1, x.log(1, 4));
    }

    /** Place 3 makes place 2 sure, which then comes ahead of place 4, though that was sure before. */
    private static void officeBeginsAnew() {
        SmokeWatch x = Woods.flat(3, 5);
        x.tower(1, 0, 10);
        x.tower(1, 0, 10);
        Woods.glow(x, 0, 1, 0, 1);
        Woods.glow(x, 1, 1, 0, 1);
        x.report(0, 4, 0, 1, 0, 0);
        x.sight(1, 0, 1, 0, 1, 0, 2, 0);
        x.sight(1, 1, 1, 0, 1, 0, 3, 0);
        x.begin(0);
        x.begin(1);
        int[] fits = {0, 0, 2, 1, 1};
        for (int i = 0; i < fits.length; i++) {
            CHECKS.due("place " + i + " fits", fits[i], x.log(i, 6));
        }
        CHECKS.due("office anew", 2, x.office());
        int[] fires = {0, 1, 0, 1, NONE};
        for (int i = 0; i < fires.length; i++) {
            CHECKS.due("fire of place " + i, fires[i], x.log(i, 4));
        }
    }

    private static void officeFull() {
        SmokeWatch x = Woods.flat(1, 2);
        x.tower(0, 0, 1);
        for (int i = 0; i < 60; i++) {
            Woods.glow(x, 0, i, 0, 1);
        }
        x.begin(59);
        CHECKS.due("office joins all", 59, x.office());
        CHECKS.due("sightings of a fire", 60, x.fire(0, 1));
        CHECKS.due("acts that can be undone", 50, x.count(4));
        CHECKS.due("the last of them is undone", true, x.undo());
        CHECKS.due("that was the last place of them", NONE, x.log(58, 4));
        CHECKS.due("sightings left", 59, x.fire(0, 1));
    }

    // Promise 17: "False, doing nothing: none such that BURNS"
    private static void outNoSuch() {
        SmokeWatch x = Woods.flat(1, 2);
        CHECKS.due("out without fires", false, x.out(0));
        for (int i = 0; i < 20; i++) {
            x.report(0, 0, i, 0, 1, 0);
            x.begin(i);
        }
        CHECKS.bounds("out", 0, 0, 19, f -> Woods.num(x.out(f)));
    }

    // Promise 17: "Fire f goes OUT (its SIGHTINGS stay in it)"
    private static void outTwice() {
        SmokeWatch x = Woods.crossing();
        x.begin(0);
        x.join(1, 0);
        CHECKS.due("out", true, x.out(0));
        CHECKS.due("out twice", false, x.out(0));
        int[] out = {1, 2, 1, 34, NONE};
        for (int what = 0; what < 5; what++) {
            CHECKS.due("out, " + what, out[what], x.fire(0, what));
        }
        CHECKS.due("out: its sighting's fire", 0, x.log(1, 4));
        CHECKS.row("out: its patch", k -> x.patch(0, k), 34);
        CHECKS.due("out: the other fits none", 0, x.log(3, 6));
    }

    // Promise 18: "NONE where there is none such"
    private static void fireNoSuch() {
        SmokeWatch x = Woods.crossing();
        for (int what = 0; what < 5; what++) {
            CHECKS.due("fire without fires, " + what, NONE, x.fire(0, what));
        }
        x.begin(0);
        x.begin(1);
        for (int what = 0; what < 3; what++) {
            int w = what;
            CHECKS.bounds("fire, " + what, NONE, 0, 1, f -> x.fire(f, w));
        }
        for (int what : new int[] {-1, 5, LEAST, MOST}) {
            CHECKS.due("fire's " + what, NONE, x.fire(0, what));
        }
    }

    // Promise 18: "0 BURNS, 1 OUT, 2 GONE .. (GONE: 0) .. (NONE without)"
    private static void fireHowItIs() {
        SmokeWatch x = Woods.crossing();
        x.begin(0);
        x.begin(1);
        x.begin(2);
        x.out(1);
        x.apart(2);
        int[][] want = {{0, 1, 4, 34, NONE}, {1, 1, 4, 34, NONE}, {2, 0, 0, NONE, NONE}};
        for (int f = 0; f < want.length; f++) {
            for (int what = 0; what < 5; what++) {
                CHECKS.due("fire " + f + ", " + what, want[f][what], x.fire(f, what));
            }
        }
    }

    // Term 3: "is AGAIN a fire that is OUT if its SQUARES have some of the PATCH"
    private static void againOfOutAlone() {
        SmokeWatch x = Woods.flat(2, 4);
        for (int i = 0; i < 6; i++) {
            x.report(0, 0, i, 0, 1, 0);
        }
        x.begin(0);
        x.begin(1);
        CHECKS.due("again one that burns", NONE, x.fire(1, 4));
        x.apart(1);
        x.begin(2);
        CHECKS.due("again one that is gone", NONE, x.fire(2, 4));
        x.out(0);
        CHECKS.due("not again behind its beginning", NONE, x.fire(2, 4));
        x.begin(3);
        CHECKS.due("again one that is out", 0, x.fire(3, 4));
        x.out(3);
        CHECKS.due("still again when it is out", 0, x.fire(3, 4));
        x.report(1, 0, 0, 0, 1, 0);
        CHECKS.due("begun of others", 4, x.begin(6));
        CHECKS.due("again none of its squares", NONE, x.fire(4, 4));
        x.apart(6);
        x.undo();
        CHECKS.due("again is as it was", NONE, x.fire(4, 4));
    }

    // Term 3: "some of the PATCH that had when it went out"
    private static void againByPatchWhenOut() {
        SmokeWatch x = Woods.flat(3, 5);
        x.report(1, 0, 0, 0, 1, 0);
        x.report(0, 4, 0, 1, 0, 0);
        x.report(0, 2, 0, 1, 0, 0);
        x.report(2, 4, 0, -1, 0, 0);
        x.begin(0);
        x.join(1, 0);
        x.out(0);
        CHECKS.row("patch when it went out", k -> x.patch(0, k), 20);
        x.begin(2);
        CHECKS.due("squares of a sighting, not of the patch", NONE, x.fire(1, 4));
        x.begin(3);
        CHECKS.due("one square of the patch", 0, x.fire(2, 4));
    }

    // Term 3: "(of several the latest by number)"
    private static void againLatestByNumber() {
        SmokeWatch x = Woods.flat(1, 3);
        for (int i = 0; i < 5; i++) {
            x.report(0, 0, i, 0, 1, 0);
        }
        x.begin(0);
        x.begin(1);
        x.begin(2);
        x.out(1);
        x.out(0);
        x.begin(3);
        CHECKS.due("latest by number, not by when it went out", 1, x.fire(3, 4));
        x.out(3);
        x.begin(4);
        CHECKS.due("latest of three", 3, x.fire(4, 4));
    }

    // Term 3: "the least sum of ways .., of several the least number"
    private static void middles() {
        int[][] cases = {
            // columns, the column whence to the right, the middle of what lies there
            {2, 0, 1}, {3, 0, 1}, {4, 0, 2}, {5, 0, 2}, {16, 0, 8}, {16, 14, 15}, {15, 0, 7},
        };
        for (int[] c : cases) {
            SmokeWatch x = Woods.flat(1, c[0]);
            x.report(0, c[1], 0, 0, 1, 0);
            x.begin(0);
            CHECKS.due("middle of " + c[1] + " to " + c[0], c[2], x.fire(0, 3));
        }
        SmokeWatch x = Woods.flat(2, 3);
        x.report(0, 1, 0, 1, 0, 100);
        x.begin(0);
        CHECKS.due("middle of a row of three", 17, x.fire(0, 3));
        x.report(0, 2, 0, 0, -1, 0);
        x.begin(1);
        CHECKS.due("middle of the first two", 0, x.fire(1, 3));
        x.report(0, 1, 0, 0, -1, 0);
        x.begin(2);
        CHECKS.due("middle of the first alone", 0, x.fire(2, 3));
        SmokeWatch ring = Woods.flat(3, 3);
        ring.report(0, 0, 0, 1, 1, 400);
        ring.begin(0);
        CHECKS.due("middle of all but a corner", 17, ring.fire(0, 3));
        SmokeWatch pair = new SmokeWatch();
        pair.row(0, 1, 0, 1);
        pair.row(1, 1, 0, 1);
        pair.row(15, 1, 0, 1);
        pair.report(0, 0, 0, 1, 0, 0);
        pair.begin(0);
        CHECKS.due("middle of two far apart is one of them", 16, pair.fire(0, 3));
    }

    // Promise 19: "NONE: there is none"
    private static void patchNoSuch() {
        SmokeWatch x = Woods.crossing();
        CHECKS.row("patch without fires", k -> x.patch(0, k));
        x.begin(0);
        CHECKS.row("patch", k -> x.patch(0, k), 33, 34, 35, 36);
        for (int f : new int[] {-1, 1, 19, 20, LEAST, MOST}) {
            CHECKS.due("patch of fire " + f, NONE, x.patch(f, 0));
        }
    }

    private static void patchOfAFullWood() {
        SmokeWatch x = Woods.flat(16, 16);
        x.report(0, 0, 0, 1, 1, 400);
        x.begin(0);
        CHECKS.due("patch of a full wood", 255, x.fire(0, 2));
        CHECKS.due("its first", 1, x.patch(0, 0));
        CHECKS.due("its last", 255, x.patch(0, 254));
        CHECKS.due("behind its last", NONE, x.patch(0, 255));
        CHECKS.due("its middle", 16 * 8 + 8, x.fire(0, 3));
    }

    // Promise 20: "0 of none"
    private static void fewestOfNone() {
        SmokeWatch x = Woods.flat(1, 2);
        CHECKS.due("fewest of an empty log", 0, x.fewest(0, 9999));
        for (int i = 0; i < 11; i++) {
            x.remark(5);
        }
        CHECKS.due("fewest of remarks", 0, x.fewest(LEAST, MOST));
        x.report(0, 0, 5, 0, 1, 0);
        CHECKS.due("fewest of one", 1, x.fewest(LEAST, MOST));
        CHECKS.due("fewest, turned round", 0, x.fewest(MOST, LEAST));
        CHECKS.due("fewest, turned round by one", 0, x.fewest(6, 5));
        x.clear(11);
        CHECKS.due("fewest of one cleared", 0, x.fewest(LEAST, MOST));
    }

    // Promise 20: "all SIGHTINGS of the MINUTES from .. to"
    private static void fewestMinutes() {
        SmokeWatch x = Woods.flat(2, 2);
        x.report(0, 0, 0, 0, 1, 0);
        x.report(1, 0, 9999, 0, 1, 0);
        CHECKS.due("both ends", 2, x.fewest(0, 9999));
        CHECKS.due("the first end", 1, x.fewest(0, 0));
        CHECKS.due("the last end", 1, x.fewest(9999, 9999));
        CHECKS.due("behind the first", 1, x.fewest(1, 9999));
        CHECKS.due("ahead of the last", 1, x.fewest(0, 9998));
        CHECKS.due("between both", 0, x.fewest(1, 9998));
        CHECKS.due("wider than both", 2, x.fewest(-1, 10000));
        CHECKS.due("ahead of all", 0, x.fewest(LEAST, -1));
        CHECKS.due("behind all", 0, x.fewest(10000, MOST));
    }

    // Promise 20: "NONE: there are more than 10"
    private static void fewestUpTo10() {
        SmokeWatch x = Woods.flat(16, 2);
        for (int i = 0; i < 10; i++) {
            x.report(i, 0, 3, 0, 1, 0);
        }
        CHECKS.due("ten apart", 10, x.fewest(3, 3));
        x.report(10, 0, 4, 0, 1, 0);
        CHECKS.due("ten of eleven", 10, x.fewest(0, 3));
        CHECKS.due("eleven", NONE, x.fewest(3, 4));
        x.clear(0);
        CHECKS.due("ten again", 10, x.fewest(3, 4));
        SmokeWatch y = Woods.flat(1, 2);
        for (int i = 0; i < 60; i++) {
            y.report(0, 0, i, 0, 1, 0);
        }
        CHECKS.due("ten in one", 1, y.fewest(50, 59));
        CHECKS.due("sixty", NONE, y.fewest(0, 9999));
    }

    // Promise 20: "or one of them has no SQUARES"
    private static void fewestWithoutSquares() {
        SmokeWatch x = Woods.flat(1, 2);
        x.report(0, 0, 1, 0, 1, 0);
        x.report(0, 0, 2, 1, 0, 0);
        CHECKS.due("one without squares", NONE, x.fewest(2, 2));
        CHECKS.due("one with and one without", NONE, x.fewest(1, 2));
        CHECKS.due("the one with", 1, x.fewest(1, 1));
        for (int i = 0; i < 9; i++) {
            x.report(0, 0, 3, 0, 1, 0);
        }
        CHECKS.due("more than ten and one without", NONE, x.fewest(1, 3));
        x.clear(1);
        CHECKS.due("without the one without", 1, x.fewest(1, 3));
    }

    // Promise 20: "without two of one tower and MINUTE"
    private static void fewestOneTowerAndMinute() {
        SmokeWatch x = Woods.flat(1, 3);
        x.tower(0, 0, 10);
        x.tower(0, 0, 10);
        for (int i = 0; i < 5; i++) {
            Woods.glow(x, 0, 7, 0, 1);
        }
        CHECKS.due("five of one tower and minute", 5, x.fewest(7, 7));
        for (int i = 0; i < 5; i++) {
            Woods.glow(x, 1, 7, 0, 1);
        }
        CHECKS.due("five pairs", 5, x.fewest(7, 7));
        SmokeWatch y = Woods.flat(1, 3);
        y.tower(0, 0, 10);
        for (int i = 0; i < 5; i++) {
            Woods.glow(y, 0, i, 0, 1);
            y.report(0, 0, 0, 0, 1, 0);
        }
        CHECKS.due("each minute once, and callers", 1, y.fewest(0, 9));
    }

    // Promise 20: "each with a PATCH that isn't empty"
    private static void fewestWithPatches() {
        SmokeWatch x = Woods.flat(2, 3);
        x.report(0, 1, 1, 0, -1, 0);
        x.report(1, 0, 1, -1, 0, 0);
        CHECKS.due("the first square alone in common", 1, x.fewest(1, 1));
        x.report(0, 0, 2, 0, 1, 0);
        x.report(1, 0, 2, 0, 1, 0);
        CHECKS.due("none in common, asked behind two that have", 2, x.fewest(2, 2));
        x.report(0, 0, 3, 0, 1, 0);
        x.report(0, 0, 3, 1, 1, 0);
        x.report(1, 2, 3, -1, -1, 100);
        // 1 and 2; 17; 0, 1, 2, 16 and 17: the third goes with each of the others, not with both.
        CHECKS.due("three of which two go with each", 2, x.fewest(3, 3));
    }

    // Promise 20: "(whatever they are JOINED to now)"
    private static void fewestOfWhatIsJoined() {
        SmokeWatch x = Woods.crossing();
        CHECKS.due("fewest of free ones", 2, x.fewest(0, 9));
        x.begin(0);
        x.begin(1);
        x.begin(3);
        CHECKS.due("fewest of three fires and one free", 2, x.fewest(0, 9));
        x.out(0);
        x.apart(1);
        CHECKS.due("fewest of out, gone and one that burns", 2, x.fewest(0, 9));
    }

    // Promise 21: "NONE: no tower, or no such fire that BURNS"
    private static void nextNoSuch() {
        SmokeWatch none = Woods.fires(1);
        CHECKS.due("next without towers", NONE, none.next(0));
        SmokeWatch x = Woods.crossing();
        CHECKS.due("next without fires", NONE, x.next(0));
        x.begin(0);
        x.begin(1);
        CHECKS.bounds("next", NONE, 0, 1, x::next);
        x.out(0);
        CHECKS.due("next of out", NONE, x.next(0));
        x.apart(1);
        CHECKS.due("next of gone", NONE, x.next(1));
    }

    // Promise 21: "the first by t, then d: 8 t + d"
    private static void nextOfOne() {
        SmokeWatch x = Woods.flat(1, 2);
        x.tower(0, 0, 0);
        x.tower(0, 1, 0);
        x.report(0, 0, 0, 0, 1, 0);
        x.begin(0);
        // Of one square the greater one is one, whether it has it or not.
        CHECKS.due("next of one square", 0, x.next(0));
    }

    // Promise 21: "(-1, 0), (-1, 1), (0, 1), (1, 1), (1, 0), (1, -1), (0, -1), (-1, -1)"
    private static void nextByEachDirection() {
        int[] down = {-1, -1, 0, 1, 1, 1, 0, -1};
        int[] right = {0, 1, 1, 1, 0, -1, -1, -1};
        for (int d = 0; d < 8; d++) {
            SmokeWatch x = Woods.flat(5, 5);
            x.tower(2, 2, 100);
            // A caller a step back looks over the tower: its square and the two behind it.
            x.report(2 - down[d], 2 - right[d], 0, down[d], right[d], 0);
            x.begin(0);
            CHECKS.due("patch towards " + d, 3, x.fire(0, 2));
            CHECKS.due("next towards " + d, d, x.next(0));
        }
    }

    /** A square at the edge of a direction's width, from the tower's own square on, all round. */
    private static void nextAtTheWidth() {
        int[][] cases = {
            {5, 2, 4}, {5, -2, 4}, {2, 5, 2}, {-2, 5, 2}, {2, -5, 6}, {-2, -5, 6},
            {-7, 3, 1}, {-3, 7, 1}, {7, 3, 3}, {3, 7, 3}, {7, -3, 5}, {3, -7, 5}, {-7, -3, 7}, {-3, -7, 7},
        };
        for (int[] c : cases) {
            SmokeWatch x = Woods.flat(16, 16);
            x.tower(8, 8, 100);
            x.report(8 - c[0], 8 - c[1], 0, c[0], c[1], 0);
            x.begin(0);
            CHECKS.row("patch of two", k -> x.patch(0, k), twoInOrder(136, 136 + 16 * c[0] + c[1]));
            CHECKS.due("next to (" + c[0] + ", " + c[1] + ")", c[2], x.next(0));
        }
        SmokeWatch up = Woods.flat(9, 16);
        up.tower(8, 8, 100);
        up.report(6, 7, 0, 1, 1, 0);
        up.begin(0);
        CHECKS.row("patch above and to the right", k -> up.patch(0, k), 120, 137);
        CHECKS.due("up comes ahead of right", 0, up.next(0));
        SmokeWatch left = Woods.flat(1, 3);
        left.tower(0, 2, 100);
        left.report(0, 2, 0, 0, -1, 0);
        left.begin(0);
        CHECKS.due("both to the left", 0, left.next(0));
    }

    private static int[] twoInOrder(int a, int b) {
        return new int[] {Math.min(a, b), Math.max(a, b)};
    }

    private static void nextLastOfAll() {
        SmokeWatch x = new SmokeWatch();
        x.row(0, 1, 0, 1);
        x.row(2, 5, 0, 1);
        x.row(3, 5, 0, 1);
        x.row(4, 5, 0, 1);
        for (int t = 0; t < 7; t++) {
            x.tower(0, 0, 100);
        }
        x.tower(3, 3, 100);
        x.report(4, 4, 0, -1, -1, 0);
        x.begin(0);
        CHECKS.row("patch of three", k -> x.patch(0, k), 0, 34, 51);
        // Seven stand on (0, 0), behind a missing row; the eighth stands on (3, 3), and sees (2, 2)
        // by its last direction alone.
        CHECKS.due("next, the last of all", 63, x.next(0));
    }

    // Promise 21: "with SIDE 41"
    private static void nextSide() {
        CHECKS.due("2 aside of 5: straight down has both", 0, nextOfTwo(5, 2));
        CHECKS.due("3 aside of 8: straight down has both", 0, nextOfTwo(8, 3));
        CHECKS.due("5 aside of 12: straight down has the first alone", 4, nextOfTwo(12, 5));
        CHECKS.due("3 aside of 7: the slanted one has the second", 3, nextOfTwo(7, 3));
    }

    /** Two squares: one straight below the tower, one a row further down and so far to the right. */
    private static int nextOfTwo(int down, int right) {
        SmokeWatch x = Woods.flat(down + 1, 16);
        x.tower(0, right, 100);
        x.report(down - 2, 0, 0, 1, right, 0);
        x.begin(0);
        CHECKS.row("patch of two", k -> x.patch(0, k), 16 * (down - 1) + right, 16 * down + 2 * right);
        return x.next(0);
    }

    // Promise 21: "as a BEARING"
    private static void nextAsBearing() {
        SmokeWatch x = Woods.ridge(0, 0, 50, 0, 0);
        x.tower(0, 0, 10);
        x.report(0, 0, 0, 0, 1, 0);
        x.begin(0);
        CHECKS.due("two of four are seen", 2, x.next(0));
        SmokeWatch all = Woods.ridge(0, 0, 0, 0, 0);
        all.tower(0, 0, 10);
        all.report(0, 0, 0, 0, 1, 0);
        all.begin(0);
        CHECKS.due("all are seen: no better than none", 0, all.next(0));
    }

    // Promise 32: "(0 to 59), or alone (NONE)"; "no such place of the log .., no such f"
    private static void claimNoSuch() {
        SmokeWatch x = new SmokeWatch();
        CHECKS.bounds("claim i", 0, 0, 59, i -> Woods.num(x.claim(i, 0)));
        CHECKS.bounds("claim i alone", 0, 0, 59, i -> Woods.num(x.claim(i, NONE)));
        CHECKS.bounds("claim f", 0, -1, 59, f -> Woods.num(x.claim(0, f)));
        CHECKS.due("claim is no act", 0, x.count(4));
    }

    // Promise 32: "(it need not have a SIGHTING)"; "(At first .. all alone.)"
    private static void claimAtFirst() {
        SmokeWatch x = Woods.flat(1, 2);
        x.tower(0, 0, 10);
        x.claim(1, 59);
        x.claim(2, 59);
        for (int i = 0; i < 4; i++) {
            Woods.glow(x, 0, 0, 0, 1);
        }
        CHECKS.due("claimed ahead of its sighting", 2, x.check());
        x.claim(2, NONE);
        CHECKS.due("the others are alone", NONE, x.check());
        x.claim(3, 59);
        CHECKS.due("claimed behind its sighting", 3, x.check());
        x.clear(3);
        CHECKS.due("cleared", NONE, x.check());
        Woods.glow(x, 0, 0, 0, 1);
        CHECKS.due("the claim of a cleared place stays", 3, x.check());
        x.undo();
        x.undo();
        CHECKS.due("the claim is not undone", 3, x.check());
    }

    // Promise 33: "NONE: all is right"
    private static void checkEmpty() {
        SmokeWatch x = Woods.flat(1, 2);
        CHECKS.due("check of an empty log", NONE, x.check());
        for (int i = 0; i < 60; i++) {
            x.claim(i, 0);
        }
        CHECKS.due("check of claims without sightings", NONE, x.check());
        x.report(0, 0, 0, 1, 0, 0);
        CHECKS.due("check of the first place, without squares", 0, x.check());
        x.undo();
        for (int i = 0; i < 60; i++) {
            x.remark(i);
        }
        CHECKS.due("check of remarks", NONE, x.check());
        x.clear(59);
        x.report(0, 0, 0, 1, 0, 0);
        CHECKS.due("check of the last place, without squares", 59, x.check());
        x.claim(59, NONE);
        CHECKS.due("check of one that is alone", NONE, x.check());
        x.clear(59);
        x.report(0, 0, 0, 0, 1, 0);
        x.claim(59, 59);
        CHECKS.due("check of the last place, with squares", NONE, x.check());
    }

    // Promise 33: "The first place of the log"
    private static void checkFirst() {
        SmokeWatch x = Woods.flat(2, 2);
        for (int i = 0; i < 6; i++) {
            x.report(i % 2, 0, 0, 0, 1, 0);
            x.claim(i, i / 2);
        }
        CHECKS.due("the first of three that are wrong", 1, x.check());
        x.claim(1, NONE);
        CHECKS.due("the first of two", 3, x.check());
        x.claim(2, NONE);
        CHECKS.due("the last one", 5, x.check());
        x.claim(5, 40);
        CHECKS.due("all is right", NONE, x.check());
    }

    // Promise 33: "with those ahead that are said to be of the same has no square in common"
    private static void checkWithThoseAhead() {
        SmokeWatch x = Woods.flat(1, 6);
        x.report(0, 2, 0, 0, -1, 0);
        x.report(0, 0, 0, 0, 1, 0);
        x.report(0, 3, 0, 0, 1, 0);
        // 0: 0 and 1. 1: 1 to 5. 2: 4 and 5. Each two beside have some in common, all have none.
        for (int i = 0; i < 3; i++) {
            x.claim(i, 9);
        }
        CHECKS.due("none in common with all ahead", 2, x.check());
        x.claim(0, 8);
        CHECKS.due("one ahead is of another", NONE, x.check());
        x.claim(0, 9);
        x.claim(1, 8);
        CHECKS.due("none in common with the one left", 2, x.check());
        x.claim(0, NONE);
        CHECKS.due("one ahead is alone", NONE, x.check());
        x.begin(0);
        x.begin(2);
        CHECKS.due("fires are not asked", NONE, x.check());
    }

    // Promise 33: "or one of the same tower and MINUTE"
    private static void checkOfTowerAndMinute() {
        SmokeWatch x = Woods.flat(1, 3);
        x.tower(0, 0, 10);
        x.tower(0, 0, 10);
        int[][] sightings = {{0, 5}, {1, 5}, {0, 6}, {1, 6}};
        for (int i = 0; i < sightings.length; i++) {
            Woods.glow(x, sightings[i][0], sightings[i][1], 0, 1);
            x.claim(i, 3);
        }
        x.report(0, 0, 5, 0, 1, 0);
        x.report(0, 0, 5, 0, 1, 0);
        x.claim(4, 3);
        x.claim(5, 3);
        CHECKS.due("tower or minute differ, or a caller's", NONE, x.check());
        Woods.glow(x, 0, 5, 0, 1);
        x.claim(6, 3);
        CHECKS.due("same tower and minute", 6, x.check());
        x.claim(0, 4);
        CHECKS.due("same tower and minute of another", NONE, x.check());
    }
}
