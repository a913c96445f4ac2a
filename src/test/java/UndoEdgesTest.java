/** Undoing and counting at the edges: Term 5, promises 34 and 35. */
public final class UndoEdgesTest {
    private static final int NONE = SmokeWatch.NONE;
    private static final int LEAST = Integer.MIN_VALUE;
    private static final int MOST = Integer.MAX_VALUE;
    private static final Checks CHECKS = new Checks("UndoEdgesTest");

    public static void main(String[] args) {
        undoNone();
        undoIsNoAct();
        undoOfMade();
        undoOfCleared();
        undoOfClearedPlaceTakenAnew();
        undoOfJoin();
        undoOfBegin();
        undoOfApart();
        undoOfOffice();
        undoOfOut();
        undoOfCrew();
        undoOfMove();
        latestFifty();
        latestFiftyOfEachKind();
        ringGoesRound();
        whatIsNoAct();
        refusedIsNoAct();
        undoLeavesAllElse();
        undoBehindChangedGround();
        countNoSuch();
        countEmpty();
        countFull();
        CHECKS.finish();
    }

    private static void undone(String what, SmokeWatch x, int actsLeft) {
        CHECKS.due("undo of " + what, true, x.undo());
        CHECKS.due("acts left behind the undoing of " + what, actsLeft, x.count(4));
    }

    // Promise 34: "false: none can be"
    private static void undoNone() {
        SmokeWatch x = new SmokeWatch();
        CHECKS.due("undo of a new object", false, x.undo());
        x.row(0, 3, 0, 1);
        CHECKS.due("undo of a row", false, x.undo());
        x.square(0, 1, 5, 5);
        x.tower(0, 0, 5);
        CHECKS.due("undo of the wood and a tower", false, x.undo());
        CHECKS.due("the tower stays", 1, x.count(0));
        x.remark(1);
        undone("a remark", x, 0);
        CHECKS.due("undo of no more", false, x.undo());
        x.remark(1);
        x.row(1, 3, 0, 1);
        CHECKS.due("undo behind a new row", false, x.undo());
        CHECKS.due("acts behind a new row", 0, x.count(4));
    }

    private static void undoIsNoAct() {
        SmokeWatch x = new SmokeWatch();
        x.remark(1);
        x.remark(2);
        undone("the second", x, 1);
        undone("the first", x, 0);
        CHECKS.due("an undoing is not undone", false, x.undo());
        CHECKS.due("the log is empty", 0, x.count(1));
    }

    // Term 5: "a log's place made (a SIGHTING, a REMARK)"
    private static void undoOfMade() {
        SmokeWatch x = Woods.flat(1, 3);
        x.tower(0, 0, 10);
        for (int kind = 0; kind < 4; kind++) {
            x.sight(kind, 0, 5, 0, 1, 0, 9, 0);
        }
        x.report(0, 0, 5, 0, 1, 0);
        x.remark(5);
        for (int i = 5; i >= 0; i--) {
            CHECKS.due("kind at " + i, i, x.log(i, 0));
            undone("place " + i, x, i);
            CHECKS.due("nothing at " + i, 6, x.log(i, 0));
            CHECKS.due("no squares at " + i, NONE, x.squares(i, 0));
            CHECKS.due("places left", i, x.count(1));
        }
        CHECKS.due("a tower can be built again", 1, x.tower(0, 0, 0));
    }

    // Term 5: "cleared"
    private static void undoOfCleared() {
        SmokeWatch x = Woods.flat(1, 3);
        x.tower(0, 0, 10);
        x.sight(2, 0, 5, 0, 1, 0, 4, Float.floatToRawIntBits(0.75f));
        x.remark(-8);
        x.clear(1);
        x.clear(0);
        undone("clear of a sighting", x, 3);
        int[] want = {2, 5, 0, 1, NONE, 1, 0};
        for (int what = 0; what < want.length; what++) {
            CHECKS.due("sighting come back, " + what, want[what], x.log(0, what));
        }
        CHECKS.row("its squares", k -> x.squares(0, k), 1);
        undone("clear of a remark", x, 2);
        CHECKS.due("remark come back", 5, x.log(1, 0));
        CHECKS.due("its number", -8, x.log(1, 1));
    }

    private static void undoOfClearedPlaceTakenAnew() {
        SmokeWatch x = new SmokeWatch();
        x.remark(1);
        x.clear(0);
        x.remark(2);
        x.clear(0);
        x.remark(3);
        int[] numbers = {NONE, 2, NONE, 1, NONE};
        for (int i = 0; i < numbers.length; i++) {
            undone("place 0, " + i, x, 4 - i);
            CHECKS.due("number at place 0 behind " + i, numbers[i], x.log(0, 1));
        }
    }

    // Term 5: "join()"
    private static void undoOfJoin() {
        SmokeWatch x = Woods.crossing();
        x.begin(0);
        x.join(1, 0);
        x.join(3, 0);
        undone("join of the third", x, 6);
        CHECKS.due("the third is free", NONE, x.log(3, 4));
        CHECKS.due("the second is not", 0, x.log(1, 4));
        CHECKS.row("patch of both", k -> x.patch(0, k), 34);
        undone("join of the second", x, 5);
        CHECKS.row("patch of one", k -> x.patch(0, k), 33, 34, 35, 36);
        CHECKS.due("the second fits again", 1, x.log(1, 6));
    }

    // Term 5: "begin()"
    private static void undoOfBegin() {
        SmokeWatch x = Woods.crossing();
        x.begin(0);
        x.begin(1);
        undone("second begin", x, 5);
        CHECKS.due("fires ever", 1, x.count(2));
        CHECKS.due("the second fire", NONE, x.fire(1, 0));
        CHECKS.due("its sighting is free", NONE, x.log(1, 4));
        CHECKS.due("the first fire", 0, x.fire(0, 0));
        undone("first begin", x, 4);
        CHECKS.due("no fire", NONE, x.fire(0, 0));
        CHECKS.due("its sighting can be cleared", true, x.clear(0));
        CHECKS.due("its number is given again", 0, x.begin(1));
    }

    // Term 5: "apart()"
    private static void undoOfApart() {
        SmokeWatch x = Woods.crossing();
        x.begin(2);
        x.begin(0);
        x.join(1, 1);
        x.apart(0);
        x.apart(1);
        CHECKS.due("gone", 2, x.fire(1, 0));
        undone("apart of the last", x, 8);
        CHECKS.due("burns again", 0, x.fire(1, 0));
        CHECKS.row("patch of the last", k -> x.patch(1, k), 18, 34, 50, 66);
        undone("apart of the first", x, 7);
        CHECKS.due("back in its own fire", 1, x.log(0, 4));
        CHECKS.row("patch of both", k -> x.patch(1, k), 34);
    }

    // Promise 16: "(an act)"
    private static void undoOfOffice() {
        SmokeWatch x = Woods.crossing();
        x.begin(0);
        CHECKS.due("office", 2, x.office());
        undone("the office's second", x, 6);
        CHECKS.due("the second is free", NONE, x.log(3, 4));
        CHECKS.due("the first is not", 0, x.log(1, 4));
        undone("the office's first", x, 5);
        CHECKS.due("the first is free", NONE, x.log(1, 4));
        CHECKS.due("the one that began is not", 0, x.log(0, 4));
    }

    // Term 5: "out()"
    private static void undoOfOut() {
        SmokeWatch x = Woods.crossing();
        x.begin(0);
        x.out(0);
        x.begin(3);
        CHECKS.due("again", 0, x.fire(1, 4));
        undone("begin of one that is again", x, 6);
        undone("out", x, 5);
        CHECKS.due("burns again", 0, x.fire(0, 0));
        CHECKS.due("has its sighting", 1, x.fire(0, 1));
        CHECKS.due("others fit it again", 1, x.log(3, 6));
        CHECKS.due("begins anew", 1, x.begin(3));
        CHECKS.due("again none now", NONE, x.fire(1, 4));
    }

    // Term 5: "crew()"
    private static void undoOfCrew() {
        SmokeWatch x = Woods.flat(1, 3);
        x.crew(0, 1);
        x.crew(0, 2);
        undone("second crew", x, 1);
        CHECKS.row("one crew", x::place, 1);
        undone("first crew", x, 0);
        CHECKS.row("no crew", x::place);
        CHECKS.due("its number is given again", 0, x.crew(0, 2));
        CHECKS.row("on another square", x::place, 2);
    }

    // Term 5: "move() that did something"
    private static void undoOfMove() {
        SmokeWatch x = Woods.flat(1, 4);
        x.crew(0, 0);
        x.crew(0, 3);
        x.move(0, 0, 2);
        x.move(1, 0, 1);
        x.move(0, 0, 3);
        undone("third move", x, 4);
        CHECKS.row("behind the third", x::place, 2, 1);
        undone("second move", x, 3);
        CHECKS.row("behind the second", x::place, 2, 3);
        undone("first move", x, 2);
        CHECKS.row("behind the first", x::place, 0, 3);
    }

    // Term 5: "The latest 50 can be undone, the last one first"
    private static void latestFifty() {
        for (int acts = 49; acts <= 60; acts++) {
            SmokeWatch x = new SmokeWatch();
            for (int i = 0; i < acts; i++) {
                x.remark(i);
            }
            int left = Math.min(acts, 50);
            CHECKS.due("acts of " + acts, left, x.count(4));
            for (int i = 0; i < left; i++) {
                undone("one of " + acts, x, left - 1 - i);
                CHECKS.due("places left of " + acts, acts - 1 - i, x.count(1));
            }
            CHECKS.due("no more of " + acts, false, x.undo());
            CHECKS.due("what stays of " + acts, acts - left, x.count(1));
        }
    }

    /** The fifty-first act back stays done, whatever it was. */
    private static void latestFiftyOfEachKind() {
        SmokeWatch x = Woods.crossing();
        x.remark(1);
        x.clear(4);
        x.begin(0);
        x.join(1, 0);
        x.apart(1);
        x.out(0);
        x.crew(0, 0);
        for (int i = 0; i < 50; i++) {
            x.move(0, 0, (i + 1) % 2);
        }
        while (x.undo()) {
            CHECKS.due("the crew is there", 1, x.count(3));
        }
        CHECKS.due("behind fifty: the crew's place", 0, x.place(0));
        CHECKS.due("behind fifty: the log", 4, x.count(1));
        CHECKS.due("behind fifty: the fire", 1, x.fire(0, 0));
        CHECKS.due("behind fifty: its sightings", 1, x.fire(0, 1));
        CHECKS.due("behind fifty: acts", 0, x.count(4));
    }

    private static void ringGoesRound() {
        SmokeWatch x = new SmokeWatch();
        for (int i = 0; i < 37; i++) {
            x.remark(i);
        }
        for (int i = 0; i < 30; i++) {
            x.undo();
        }
        for (int i = 0; i < 53; i++) {
            x.remark(100 + i);
        }
        CHECKS.due("acts", 50, x.count(4));
        for (int i = 0; i < 50; i++) {
            CHECKS.due("the last one at " + (59 - i), 152 - i, x.log(59 - i, 1));
            undone("round " + i, x, 49 - i);
        }
        CHECKS.due("no more", false, x.undo());
        CHECKS.due("the places that stay", 10, x.count(1));
        CHECKS.due("the first", 0, x.log(0, 1));
        CHECKS.due("the last", 102, x.log(9, 1));
    }

    /** Acts are those that Term 5 names alone. */
    private static void whatIsNoAct() {
        SmokeWatch x = Woods.flat(2, 3);
        x.square(0, 0, 1, 1);
        x.tower(0, 0, 10);
        x.claim(0, 0);
        CHECKS.due("acts of the wood, a tower and a claim", 0, x.count(4));
        x.report(0, 0, 0, 0, 1, 0);
        x.begin(0);
        x.crew(0, 0);
        CHECKS.due("send", 1, x.send());
        x.sent(0);
        x.office();
        x.check();
        x.fewest(0, 9);
        x.next(0);
        x.best();
        x.blinds();
        x.blind(0);
        x.see(0, 0, 0);
        x.hidden(0, 0, 0);
        x.log(0, 6);
        x.squares(0, 0);
        x.fire(0, 3);
        x.patch(0, 0);
        x.place(0);
        x.minutes(0, 1, 1);
        x.way(0, 1, 1, 1);
        CHECKS.due("acts of a report, a fire and a crew", 3, x.count(4));
    }

    private static void refusedIsNoAct() {
        SmokeWatch x = Woods.crossing();
        x.begin(0);
        x.crew(0, 0);
        x.clear(0);
        x.clear(9);
        x.join(2, 0);
        x.begin(0);
        x.apart(1);
        x.out(1);
        x.crew(9, 9);
        x.move(0, 9, 9);
        x.move(1, 0, 0);
        x.sight(9, 0, 0, 1, 0, 0, 0, 0);
        x.report(9, 9, 0, 1, 0, 0);
        CHECKS.due("acts behind refused calls", 6, x.count(4));
        for (int i = 4; i < 60; i++) {
            x.remark(i);
        }
        CHECKS.due("acts of a full log", 50, x.count(4));
        CHECKS.due("a remark too many", NONE, x.remark(0));
        undone("the last remark", x, 49);
        CHECKS.due("it was the last that was made", 6, x.log(59, 0));
    }

    // Term 5: "then all of the log, fires and crews is as ahead of it" (and nothing else is)
    private static void undoLeavesAllElse() {
        SmokeWatch x = Woods.fires(1);
        x.tower(0, 0, 1);
        x.crew(0, 1);
        x.claim(0, 4);
        x.claim(1, 4);
        x.claim(2, 4);
        CHECKS.due("send", 0, x.send());
        for (int i = 0; i < 5; i++) {
            CHECKS.due("undo " + i, true, x.undo());
        }
        CHECKS.due("all undone", false, x.undo());
        CHECKS.due("what was told stays", 0, x.sent(0));
        x.report(0, 0, 0, 0, 1, 0);
        x.report(0, 2, 0, 0, 1, 0);
        x.report(0, 3, 0, 0, -1, 0);
        CHECKS.due("claims stay", 2, x.check());
        CHECKS.due("squares stay", 16, x.count(5));
    }

    /** The log is as ahead of the clearing, also where the ground has changed since. */
    private static void undoBehindChangedGround() {
        SmokeWatch x = Woods.flat(1, 5);
        x.tower(0, 0, 10);
        x.sight(0, 0, 1, 0, 1, 0, 0, 0);
        x.clear(0);
        CHECKS.due("square of an empty log", true, x.square(0, 2, 100, 1));
        CHECKS.due("a tower more", 1, x.tower(0, 4, 10));
        undone("clear", x, 1);
        CHECKS.row("squares as they were", k -> x.squares(0, k), 1, 2, 3, 4);
        CHECKS.due("the ground stays changed", 0, x.see(0, 0, 4));
        CHECKS.due("the tower stays", 2, x.count(0));
        x.sight(0, 0, 2, 0, 1, 0, 0, 0);
        CHECKS.row("squares of a new one", k -> x.squares(1, k), 1, 2);
    }

    // Promise 35: "NONE for others"
    private static void countNoSuch() {
        SmokeWatch x = new SmokeWatch();
        CHECKS.bounds("count", NONE, 0, 5, x::count);
    }

    private static void countEmpty() {
        SmokeWatch x = new SmokeWatch();
        for (int what = 0; what <= 5; what++) {
            CHECKS.due("count of a new object, " + what, 0, x.count(what));
        }
    }

    /** All of the document's bounds at once. */
    private static void countFull() {
        SmokeWatch x = Woods.flat(16, 16);
        for (int k = 0; k < 9; k++) {
            x.tower(k, 0, 100);
            x.crew(k, k);
        }
        for (int i = 0; i < 61; i++) {
            x.sight(3, i % 8, i, 1, 1, 400, 0, 0);
        }
        for (int f = 0; f < 21; f++) {
            x.begin(f);
        }
        int[] full = {8, 60, 20, 8, 50, 256};
        for (int what = 0; what < full.length; what++) {
            CHECKS.due("count of all that can be, " + what, full[what], x.count(what));
        }
        for (int what : new int[] {-1, 6, LEAST, MOST}) {
            CHECKS.due("count of others, " + what, NONE, x.count(what));
        }
    }
}
