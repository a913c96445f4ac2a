/** Each promise of the document by hand: ordinary calls, the edges it names, and wrong inputs. */
public final class PromisesTest {
    private static final int NONE = SmokeWatch.NONE;
    private static final Checks CHECKS = new Checks("PromisesTest");

    private static void due(String what, long want, long got) {
        CHECKS.due(what, want, got);
    }

    private static void due(String what, boolean want, boolean got) {
        CHECKS.due(what, want, got);
    }

    public static void main(String[] args) {
        newObject();
        row();
        square();
        tower();
        see();
        hidden();
        sight();
        haze();
        report();
        remark();
        clear();
        log();
        squares();
        join();
        begin();
        apart();
        office();
        out();
        fire();
        again();
        patch();
        fewest();
        next();
        crew();
        move();
        place();
        minutes();
        way();
        send();
        sent();
        blinds();
        best();
        claim();
        check();
        undo();
        undoLimit();
        undoKeepsSquares();
        count();
        CHECKS.finish();
    }

    private static void newObject() {
        SmokeWatch x = new SmokeWatch();
        due("NONE", -1, SmokeWatch.NONE);
        for (int what = 0; what < 6; what++) {
            due("new count " + what, 0, x.count(what));
        }
        due("new tower", NONE, x.tower(0, 0, 0));
        due("new crew", NONE, x.crew(0, 0));
        due("new see", NONE, x.see(0, 0, 0));
        due("new hidden", NONE, x.hidden(0, 0, 0));
        due("new sight", NONE, x.sight(0, 0, 0, 1, 0, 0, 0, 0));
        due("new report", NONE, x.report(0, 0, 0, 1, 0, 0));
        due("new square", false, x.square(0, 0, 0, 1));
        due("new blinds", 0, x.blinds());
        due("new best", NONE, x.best());
        due("new undo", false, x.undo());
        due("new office", 0, x.office());
        due("new fewest", 0, x.fewest(0, 9999));
        due("new send", NONE, x.send());
        due("new sent", NONE, x.sent(0));
        due("new check", NONE, x.check());
        due("new log", 6, x.log(0, 0));
        due("new remark", 0, x.remark(5));
    }

    private static void row() {
        SmokeWatch x = new SmokeWatch();
        due("row -1", false, x.row(-1, 1, 0, 1));
        due("row 16", false, x.row(16, 1, 0, 1));
        due("row n -1", false, x.row(0, -1, 0, 1));
        due("row n 17", false, x.row(0, 17, 0, 1));
        due("row low", false, x.row(0, 1, -1001, 1));
        due("row high", false, x.row(0, 1, 3001, 1));
        due("row minutes 0", false, x.row(0, 1, 0, 0));
        due("row minutes 61", false, x.row(0, 1, 0, 61));
        due("row none there", 0, x.count(5));
        due("row lowest", true, x.row(0, 16, -1000, 1));
        due("row highest", true, x.row(15, 1, 3000, 60));
        due("row count", 17, x.count(5));
        due("row shorter", true, x.row(0, 3, 0, 1));
        due("row count shorter", 4, x.count(5));
        due("row missing, all else counts for nothing", true, x.row(0, 0, 9999, -5));
        due("row count missing", 1, x.count(5));
        rowTakesAway();
    }

    private static void rowTakesAway() {
        SmokeWatch x = Woods.flat(1, 4);
        x.tower(0, 0, 10);
        Woods.glow(x, 0, 1, 0, 1);
        x.begin(0);
        x.crew(0, 0);
        x.claim(1, 3);
        due("row send ahead", 2, x.send());
        due("row wrong takes nothing", false, x.row(2, 17, 0, 1));
        due("row acts stay", 3, x.count(4));
        due("row sent stays", 0, x.sent(0));
        due("row missing one", true, x.row(9, 0, 0, 0));
        for (int what = 0; what < 5; what++) {
            due("row takes away " + what, 0, x.count(what));
        }
        due("row others stay", 4, x.count(5));
        due("row sent", NONE, x.sent(0));
        due("row undo", false, x.undo());
        due("row fire", NONE, x.fire(0, 0));
        due("row log", 6, x.log(0, 0));
        due("row place", NONE, x.place(0));
        due("row tower", 0, x.tower(0, 0, 0));
        x.sight(1, 0, 1, -1, 0, 0, 1, 0);
        x.sight(1, 0, 1, -1, 0, 0, 1, 0);
        due("row claims all alone", NONE, x.check());
    }

    private static void square() {
        SmokeWatch x = Woods.flat(2, 3);
        due("square missing column", false, x.square(0, 3, 0, 1));
        due("square missing row", false, x.square(2, 0, 0, 1));
        due("square row -1", false, x.square(-1, 0, 0, 1));
        due("square column -1", false, x.square(1, -1, 0, 1));
        due("square row 16", false, x.square(16, 0, 0, 1));
        due("square low", false, x.square(0, 0, -1001, 1));
        due("square high", false, x.square(0, 0, 3001, 1));
        due("square minutes 0", false, x.square(0, 0, 0, 0));
        due("square minutes 61", false, x.square(0, 0, 0, 61));
        x.tower(0, 0, 10);
        x.claim(0, 1);
        due("square with a tower", true, x.square(0, 1, 3000, 60));
        due("square hides", 0, x.see(0, 0, 2));
        due("square tower stays", 1, x.count(0));
        due("square back", true, x.square(0, 1, -1000, 1));
        due("square hides no more", 1, x.see(0, 0, 2));
        x.remark(1);
        due("square with a log", false, x.square(0, 1, 0, 1));
        x.clear(0);
        due("square with an empty log", true, x.square(0, 1, 0, 1));
        x.crew(1, 1);
        due("square with a crew", false, x.square(0, 1, 0, 1));
        x.undo();
        due("square without the crew", true, x.square(0, 1, 0, 1));
        Woods.glow(x, 0, 1, 0, 1);
        x.begin(0);
        x.apart(0);
        x.clear(0);
        due("square with a fire that is gone", false, x.square(0, 1, 0, 1));
    }

    private static void tower() {
        SmokeWatch x = Woods.flat(2, 3);
        due("tower missing", NONE, x.tower(0, 3, 0));
        due("tower row -1", NONE, x.tower(-1, 0, 0));
        due("tower height -1", NONE, x.tower(0, 0, -1));
        due("tower height 101", NONE, x.tower(0, 0, 101));
        x.remark(4);
        due("tower with a log", NONE, x.tower(0, 0, 0));
        x.clear(0);
        x.crew(0, 0);
        for (int t = 0; t < 8; t++) {
            due("tower " + t, t, x.tower(0, 0, t % 2 == 0 ? 0 : 100));
        }
        due("tower 9th", NONE, x.tower(0, 0, 0));
        due("tower count", 8, x.count(0));
        due("tower is no act", 3, x.count(4));
    }

    private static void see() {
        SmokeWatch x = Woods.flat(5, 5);
        x.tower(2, 0, 10);
        due("see own", 1, x.see(0, 2, 0));
        due("see tower -1", NONE, x.see(-1, 2, 0));
        due("see tower 1", NONE, x.see(1, 2, 0));
        due("see missing", NONE, x.see(0, 5, 0));
        due("see column -1", NONE, x.see(0, 2, -1));
        due("see row end", 1, x.see(0, 2, 4));
        // To (2, 4) the line falls from 10 to 0; it leaves (2, 2) at 5 / 8 of the way: height 3.75.
        x.square(2, 2, 3, 1);
        due("see over 3", 1, x.see(0, 2, 4));
        x.square(2, 2, 4, 1);
        due("see over 4", 0, x.see(0, 2, 4));
        due("see a hiding square itself", 1, x.see(0, 2, 2));
        x.square(2, 2, 0, 1);
        // To (4, 2) the line goes through corners alone: (3, 0) and (2, 1) don't hide.
        x.square(3, 0, 3000, 1);
        x.square(2, 1, 3000, 1);
        due("see through corners", 1, x.see(0, 4, 2));
        due("see blocked", 0, x.see(0, 4, 0));
        seeAtTheEdge();
        seeUphill();
        seeOverGap();
    }

    private static void seeAtTheEdge() {
        SmokeWatch x = Woods.flat(1, 5);
        x.tower(0, 0, 80);
        // 80 falls to 0 over 4 squares; out of (0, 1) at 3 / 8: 50; out of (0, 3) at 7 / 8: 10.
        x.square(0, 1, 49, 1);
        due("see just below", 1, x.see(0, 0, 4));
        x.square(0, 1, 50, 1);
        due("see at the height", 0, x.see(0, 0, 4));
        x.square(0, 1, 0, 1);
        x.square(0, 3, 9, 1);
        due("see just below late", 1, x.see(0, 0, 4));
        x.square(0, 3, 10, 1);
        due("see at the height late", 0, x.see(0, 0, 4));
        SmokeWatch ground = Woods.flat(1, 3);
        ground.tower(0, 0, 0);
        due("see along the ground", 0, ground.see(0, 0, 2));
        due("see beside on the ground", 1, ground.see(0, 0, 1));
    }

    private static void seeUphill() {
        SmokeWatch x = Woods.flat(1, 3);
        x.square(0, 2, 40, 1);
        x.tower(0, 0, 0);
        // Rising from 0 to 40 the line comes into (0, 1) at 10 and goes out at 30: 10 is the lower.
        x.square(0, 1, 9, 1);
        due("see uphill", 1, x.see(0, 0, 2));
        x.square(0, 1, 10, 1);
        due("see uphill hidden", 0, x.see(0, 0, 2));
    }

    private static void seeOverGap() {
        SmokeWatch x = new SmokeWatch();
        x.row(0, 3, 0, 1);
        x.row(1, 1, 0, 1);
        x.row(2, 3, 0, 1);
        x.tower(0, 0, 100);
        due("see over a gap", 0, x.see(0, 2, 2));
        due("see beside a gap", 1, x.see(0, 2, 0));
        due("see over half a gap", 0, x.see(0, 2, 1));
        due("hidden by a gap", 17, x.hidden(0, 2, 2));
    }

    private static void hidden() {
        SmokeWatch x = Woods.flat(3, 6);
        x.tower(0, 0, 10);
        due("hidden none", NONE, x.hidden(0, 0, 5));
        due("hidden own", NONE, x.hidden(0, 0, 0));
        due("hidden missing", NONE, x.hidden(0, 3, 0));
        due("hidden tower 1", NONE, x.hidden(1, 0, 0));
        due("hidden tower -1", NONE, x.hidden(-1, 0, 0));
        x.square(0, 2, 100, 1);
        x.square(0, 3, 200, 1);
        due("hidden first", 2, x.hidden(0, 0, 5));
        due("hidden none ahead", NONE, x.hidden(0, 0, 2));
        // The line from (0, 0) to (1, 3) goes by (0, 1), then (1, 2); (0, 2) and (1, 1) are touched at a corner.
        due("hidden slant", NONE, x.hidden(0, 1, 3));
        x.square(1, 2, 50, 1);
        due("hidden slant second", 18, x.hidden(0, 1, 3));
        x.square(0, 1, 50, 1);
        due("hidden slant first", 1, x.hidden(0, 1, 3));
        SmokeWatch back = Woods.flat(1, 6);
        back.square(0, 2, 100, 1);
        back.square(0, 3, 200, 1);
        back.tower(0, 5, 10);
        due("hidden from the other end", 3, back.hidden(0, 0, 0));
    }

    private static void sight() {
        SmokeWatch x = Woods.flat(5, 5);
        x.tower(2, 2, 10);
        due("sight kind -1", NONE, x.sight(-1, 0, 0, 1, 0, 0, 1, 0));
        due("sight kind 4", NONE, x.sight(4, 0, 0, 1, 0, 0, 1, 0));
        due("sight tower 1", NONE, x.sight(0, 1, 0, 1, 0, 0, 1, 0));
        due("sight tower -1", NONE, x.sight(0, -1, 0, 1, 0, 0, 1, 0));
        due("sight minute -1", NONE, x.sight(0, 0, -1, 1, 0, 0, 1, 0));
        due("sight minute 10000", NONE, x.sight(0, 0, 10000, 1, 0, 0, 1, 0));
        due("sight down 51", NONE, x.sight(0, 0, 0, 51, 0, 0, 1, 0));
        due("sight down -51", NONE, x.sight(0, 0, 0, -51, 0, 0, 1, 0));
        due("sight right 51", NONE, x.sight(0, 0, 0, 0, 51, 0, 1, 0));
        due("sight right -51", NONE, x.sight(0, 0, 0, 0, -51, 0, 1, 0));
        due("sight no direction", NONE, x.sight(0, 0, 0, 0, 0, 0, 1, 0));
        due("sight side -1", NONE, x.sight(0, 0, 0, 1, 0, -1, 1, 0));
        due("sight side 401", NONE, x.sight(0, 0, 0, 1, 0, 401, 1, 0));
        for (int kind = 1; kind <= 2; kind++) {
            due("sight reach 0", NONE, x.sight(kind, 0, 0, 1, 0, 0, 0, 0));
            due("sight reach 41", NONE, x.sight(kind, 0, 0, 1, 0, 0, 41, 0));
        }
        due("sight wrong does nothing", 0, x.count(1) + x.count(4));
        due("sight least", 0, x.sight(0, 0, 0, -50, -50, 0, -7, Integer.MAX_VALUE));
        due("sight most", 1, x.sight(3, 0, 9999, 50, 50, 400, 99, -1));
        due("sight short least", 2, x.sight(1, 0, 9999, 50, 50, 400, 1, 2143289344));
        due("sight short most", 3, x.sight(1, 0, 9999, 50, 50, 400, 40, 0));
        x.clear(1);
        due("sight first place that has nothing", 1, x.sight(0, 0, 5, 1, 0, 0, 0, 0));
        for (int i = 4; i < 60; i++) {
            due("sight " + i, i, x.sight(0, 0, 5, 1, 0, 0, 0, 0));
        }
        due("sight 61st", NONE, x.sight(0, 0, 5, 1, 0, 0, 0, 0));
        due("report 61st", NONE, x.report(0, 0, 5, 1, 0, 0));
        due("remark 61st", NONE, x.remark(5));
        x.clear(33);
        due("sight hole", 33, x.sight(0, 0, 5, 1, 0, 0, 0, 0));
    }

    private static int reachLeft(int reach, int hazeBits) {
        SmokeWatch x = Woods.flat(1, 2);
        x.tower(0, 0, 1);
        int i = x.sight(2, 0, 0, 0, 1, 0, reach, hazeBits);
        return i == NONE ? -99 : x.log(i, 5);
    }

    private static void haze() {
        due("haze 0", 40, reachLeft(40, 0));
        due("haze -0", 40, reachLeft(40, Float.floatToRawIntBits(-0.0f)));
        due("haze 1", 0, reachLeft(40, Float.floatToRawIntBits(1f)));
        due("haze above 1", -99, reachLeft(40, Float.floatToRawIntBits(Math.nextUp(1f))));
        due("haze below 0", -99, reachLeft(40, Float.floatToRawIntBits(-Float.MIN_VALUE)));
        due("haze NaN", -99, reachLeft(40, Float.floatToRawIntBits(Float.NaN)));
        due("haze -NaN", -99, reachLeft(40, -1));
        due("haze infinite", -99, reachLeft(40, Float.floatToRawIntBits(Float.POSITIVE_INFINITY)));
        due("haze -infinite", -99, reachLeft(40, Float.floatToRawIntBits(Float.NEGATIVE_INFINITY)));
        due("haze least", 40, reachLeft(40, 1));
        due("haze 0.3 of 9: less by 2", 7, reachLeft(9, Float.floatToRawIntBits(0.3f)));
        for (int percent = 0; percent <= 100; percent++) {
            int middle = Float.floatToRawIntBits(percent / 100f);
            for (int bits = Math.max(0, middle - 3); bits <= Math.min(middle + 3, 0x3F800000); bits++) {
                int h = (int) (Float.intBitsToFloat(bits) * 100f);
                due("haze bits " + bits, 40 - 40 * h / 100, reachLeft(40, bits));
            }
        }
        for (int bits = 0; bits <= 0x3F800000; bits += 1234567) {
            int h = (int) (Float.intBitsToFloat(bits) * 100f);
            due("haze bits " + bits, 37 - 37 * h / 100, reachLeft(37, bits));
        }
    }

    private static void report() {
        SmokeWatch x = Woods.flat(3, 3);
        due("report missing", NONE, x.report(3, 0, 0, 1, 0, 0));
        due("report column -1", NONE, x.report(0, -1, 0, 1, 0, 0));
        due("report minute -1", NONE, x.report(0, 0, -1, 1, 0, 0));
        due("report minute 10000", NONE, x.report(0, 0, 10000, 1, 0, 0));
        due("report no direction", NONE, x.report(0, 0, 0, 0, 0, 0));
        due("report down 51", NONE, x.report(0, 0, 0, 51, 0, 0));
        due("report right -51", NONE, x.report(0, 0, 0, 0, -51, 0));
        due("report side -1", NONE, x.report(0, 0, 0, 1, 0, -1));
        due("report side 401", NONE, x.report(0, 0, 0, 1, 0, 401));
        x.square(0, 1, 3000, 1);
        due("report", 0, x.report(0, 0, 7, 0, 1, 0));
        due("report kind", 4, x.log(0, 0));
        due("report minute", 7, x.log(0, 1));
        due("report tower", NONE, x.log(0, 2));
        due("report is not hidden", 2, x.log(0, 3));
        due("report reach", NONE, x.log(0, 5));
        due("report again", 1, x.report(0, 0, 7, 0, 1, 0));
        x.begin(0);
        due("report fits the same minute", 1, x.log(1, 6));
        due("report joins", true, x.join(1, 0));
        due("report is one fire", 1, x.fewest(7, 7));
    }

    private static void remark() {
        SmokeWatch x = new SmokeWatch();
        due("remark", 0, x.remark(Integer.MIN_VALUE));
        due("remark number", Integer.MIN_VALUE, x.log(0, 1));
        due("remark kind", 5, x.log(0, 0));
        due("remark is no sighting", NONE, x.squares(0, 0));
        due("remark begins nothing", NONE, x.begin(0));
        due("remark is in none", false, x.apart(0));
        for (int i = 1; i < 60; i++) {
            due("remark " + i, i, x.remark(i));
        }
        due("remark 61st", NONE, x.remark(1));
        due("remark count", 60, x.count(1));
    }

    private static void clear() {
        SmokeWatch x = Woods.flat(1, 3);
        x.tower(0, 0, 1);
        due("clear nothing", false, x.clear(0));
        due("clear -1", false, x.clear(-1));
        due("clear 60", false, x.clear(60));
        x.remark(1);
        Woods.glow(x, 0, 1, 0, 1);
        due("clear remark", true, x.clear(0));
        due("clear again", false, x.clear(0));
        x.begin(1);
        due("clear joined", false, x.clear(1));
        x.out(0);
        due("clear joined to one that is out", false, x.clear(1));
        x.undo();
        x.apart(1);
        due("clear", true, x.clear(1));
        due("cleared kind", 6, x.log(1, 0));
        due("cleared minute", NONE, x.log(1, 1));
        due("cleared count", 0, x.count(1));
    }

    private static void log() {
        SmokeWatch x = Woods.flat(3, 3);
        x.tower(1, 1, 10);
        x.sight(0, 0, 42, 0, 1, 100, 9, 9);
        x.sight(1, 0, 43, 0, 1, 100, 1, 9);
        x.sight(2, 0, 44, 0, -1, 100, 10, Float.floatToRawIntBits(0.5f));
        x.sight(3, 0, 45, 0, -1, 100, 9, 9);
        int[][] want = {
            {0, 42, 0, 3, 0, NONE, 0},
            {1, 43, 0, 1, NONE, 1, 1},
            {2, 44, 0, 3, NONE, 5, 0},
            {3, 45, 0, 3, NONE, NONE, 0},
        };
        x.begin(0);
        for (int i = 0; i < want.length; i++) {
            for (int what = 0; what < 7; what++) {
                due("log " + i + " " + what, want[i][what], x.log(i, what));
            }
            due("log " + i + " 7", NONE, x.log(i, 7));
            due("log " + i + " -1", NONE, x.log(i, -1));
        }
        due("log -1", NONE, x.log(-1, 0));
        due("log 60", NONE, x.log(60, 0));
        due("log 59", 6, x.log(59, 0));
        x.remark(9);
        for (int what = 1; what < 8; what++) {
            due("log nothing " + what, NONE, x.log(5, what));
            due("log remark " + what, what == 1 ? 9 : NONE, x.log(4, what));
        }
        due("log remark -1", NONE, x.log(4, -1));
    }

    private static void squares() {
        SmokeWatch x = Woods.flat(4, 4);
        x.tower(0, 0, 10);
        // Right by (1, 2): (0, 1) lies aside 100 * 1 of 2 along, (1, 2) on it, (1, 1) 100 * 1 of 3.
        x.sight(0, 0, 0, 1, 2, 0, 0, 0);
        due("squares of side 0", 18, x.squares(0, 0));
        due("squares of side 0 end", NONE, x.squares(0, 1));
        x.sight(0, 0, 0, 1, 2, 33, 0, 0);
        due("squares of side 33", 18, x.squares(1, 0));
        x.sight(0, 0, 0, 1, 2, 34, 0, 0);
        due("squares of side 34", 17, x.squares(2, 0));
        x.sight(0, 0, 0, 1, 2, 50, 0, 0);
        due("squares of side 50", 1, x.squares(3, 0));
        x.sight(3, 0, 0, 1, 0, 400, 0, 0);
        // Along must be above 0: the tower's own row has none of it.
        due("squares ahead alone", 16, x.squares(4, 0));
        due("squares ahead alone count", 12, x.log(4, 3));
        x.sight(1, 0, 0, 1, 1, 400, 2, 0);
        // v * v at most 4: (0, 1), (0, 2), (1, 0), (1, 1), (2, 0).
        int[] within = {1, 2, 16, 17, 32, NONE};
        for (int k = 0; k < within.length; k++) {
            due("squares within " + k, within[k], x.squares(5, k));
        }
        due("squares -1", NONE, x.squares(5, -1));
        due("squares far", NONE, x.squares(5, Integer.MAX_VALUE));
        due("squares of nothing", NONE, x.squares(6, 0));
        due("squares of -1", NONE, x.squares(-1, 0));
        due("squares of 60", NONE, x.squares(60, 0));
        squaresSeen();
    }

    private static void squaresSeen() {
        SmokeWatch x = Woods.flat(1, 4);
        x.square(0, 1, 100, 1);
        x.tower(0, 0, 10);
        x.sight(0, 0, 0, 0, 1, 0, 0, 0);
        due("squares bearing", 1, x.log(0, 3));
        x.sight(1, 0, 0, 0, 1, 0, 9, 0);
        due("squares short", 1, x.log(1, 3));
        x.sight(2, 0, 0, 0, 1, 0, 9, 0);
        due("squares faint", 1, x.log(2, 3));
        Woods.glow(x, 0, 0, 0, 1);
        due("squares glow", 3, x.log(3, 3));
        x.report(0, 0, 0, 0, 1, 0);
        due("squares report", 3, x.log(4, 3));
    }

    private static void join() {
        SmokeWatch x = Woods.crossing();
        due("join no fire", false, x.join(1, 0));
        x.begin(0);
        due("join in one already", false, x.join(0, 0));
        due("join fire -1", false, x.join(1, -1));
        due("join fire 1", false, x.join(1, 1));
        due("join place -1", false, x.join(-1, 0));
        due("join place 60", false, x.join(60, 0));
        due("join nothing", false, x.join(4, 0));
        x.remark(1);
        due("join remark", false, x.join(4, 0));
        due("join same tower and minute", false, x.join(2, 0));
        due("join no act yet", 6, x.count(4));
        due("join other tower", true, x.join(1, 0));
        due("join patch", 34, x.patch(0, 0));
        due("join patch end", NONE, x.patch(0, 1));
        due("join act", 7, x.count(4));
        due("join log", 0, x.log(1, 4));
        due("join same tower, other minute", true, x.join(3, 0));
        due("join sightings", 3, x.fire(0, 1));
        Woods.glow(x, 0, 3, 1, 0);
        due("join empty patch", false, x.join(5, 0));
        x.out(0);
        x.report(2, 0, 1, 0, 1, 0);
        due("join one that is out", false, x.join(6, 0));
        x.undo();
        x.undo();
        x.apart(0);
        x.apart(1);
        x.apart(3);
        due("join one that is gone", false, x.join(0, 0));
    }

    private static void begin() {
        SmokeWatch x = Woods.crossing();
        due("begin -1", NONE, x.begin(-1));
        due("begin 60", NONE, x.begin(60));
        due("begin nothing", NONE, x.begin(4));
        x.sight(0, 0, 5, 0, -1, 0, 0, 0);
        due("begin without squares", NONE, x.begin(4));
        due("begin", 0, x.begin(0));
        due("begin is in one", NONE, x.begin(0));
        for (int f = 1; f < 20; f++) {
            due("begin " + f, f, x.begin(1));
            due("begin apart " + f, true, x.apart(1));
        }
        due("begin 21st", NONE, x.begin(1));
        due("begin fires ever", 20, x.count(2));
        x.undo();
        x.undo();
        due("begin ever less one", 19, x.count(2));
        due("begin 20th anew", 19, x.begin(1));
    }

    private static void apart() {
        SmokeWatch x = Woods.crossing();
        due("apart of none", false, x.apart(0));
        due("apart -1", false, x.apart(-1));
        due("apart 60", false, x.apart(60));
        due("apart nothing", false, x.apart(5));
        x.begin(0);
        x.join(1, 0);
        due("apart", true, x.apart(0));
        due("apart twice", false, x.apart(0));
        due("apart log", NONE, x.log(0, 4));
        due("apart burns", 0, x.fire(0, 0));
        due("apart patch", 4, x.fire(0, 2));
        x.out(0);
        due("apart of one that is out", false, x.apart(1));
        due("apart stays", 0, x.log(1, 4));
        x.undo();
        due("apart last", true, x.apart(1));
        due("apart gone", 2, x.fire(0, 0));
        due("apart gone sightings", 0, x.fire(0, 1));
        due("apart gone patch", 0, x.fire(0, 2));
        due("apart gone middle", NONE, x.fire(0, 3));
        due("apart gone ever", 1, x.count(2));
        due("apart acts", 8, x.count(4));
    }

    private static void office() {
        SmokeWatch x = Woods.flat(5, 5);
        x.tower(2, 0, 10);
        x.tower(0, 2, 10);
        x.tower(0, 4, 10);
        Woods.glow(x, 0, 1, 0, 1);
        Woods.glow(x, 1, 1, 1, 0);
        Woods.glow(x, 2, 1, 1, 0);
        due("office without fires", 0, x.office());
        x.begin(0);
        due("office fits", 1, x.log(2, 6));
        due("office takes the first", 1, x.office());
        due("office first", 0, x.log(1, 4));
        due("office second fits no more", NONE, x.log(2, 4));
        due("office acts", 5, x.count(4));
        x.undo();
        due("office undone", NONE, x.log(1, 4));
        x.begin(2);
        // The column of tower 1 meets the row alone, and a report on the crossing fits both fires.
        x.report(1, 4, 3, 1, 0, 0);
        due("office fits two", 2, x.log(3, 6));
        due("office", 2, x.office());
        due("office column", 0, x.log(1, 4));
        due("office what fitted two fits one behind", 1, x.log(3, 4));
        due("office no more", 0, x.office());
    }

    private static void out() {
        SmokeWatch x = Woods.crossing();
        due("out none", false, x.out(0));
        x.begin(0);
        due("out -1", false, x.out(-1));
        due("out 1", false, x.out(1));
        due("out 20", false, x.out(20));
        due("out", true, x.out(0));
        due("out twice", false, x.out(0));
        due("out how", 1, x.fire(0, 0));
        due("out sightings stay", 1, x.fire(0, 1));
        due("out patch stays", 4, x.fire(0, 2));
        due("out log", 0, x.log(0, 4));
        due("out acts", 6, x.count(4));
        x.begin(1);
        x.apart(1);
        due("out of one that is gone", false, x.out(1));
    }

    private static void fire() {
        SmokeWatch x = Woods.flat(3, 5);
        x.tower(0, 0, 10);
        x.sight(3, 0, 1, 1, 2, 100, 0, 0);
        due("fire none", NONE, x.fire(0, 0));
        x.begin(0);
        due("fire -1", NONE, x.fire(-1, 0));
        due("fire 1", NONE, x.fire(1, 0));
        due("fire 20", NONE, x.fire(20, 0));
        due("fire how", 0, x.fire(0, 0));
        due("fire sightings", 1, x.fire(0, 1));
        // aside |2d - r| at most along d + 2r: all but column 0 of rows 1 and 2 ((1,0): 2 > 1).
        due("fire patch", 12, x.fire(0, 2));
        due("fire again", NONE, x.fire(0, 4));
        due("fire what 5", NONE, x.fire(0, 5));
        due("fire what -1", NONE, x.fire(0, -1));
        // Columns 1 to 4 in three rows: row 1, and of columns 2 and 3 the lesser number.
        due("fire middle", 18, x.fire(0, 3));
    }

    private static void again() {
        SmokeWatch x = Woods.crossing();
        x.begin(0);
        x.begin(1);
        x.out(0);
        due("again is told when it begins", NONE, x.fire(1, 4));
        x.begin(3);
        due("again the one that is out", 0, x.fire(2, 4));
        x.out(2);
        x.out(1);
        Woods.glow(x, 0, 9, 0, 1);
        due("again begin", 3, x.begin(4));
        due("again the latest by number", 2, x.fire(3, 4));
        x.report(4, 4, 0, -1, 0, 0);
        due("again begin of a caller", 4, x.begin(5));
        due("again by the patch", 2, x.fire(4, 4));
        x.report(0, 0, 0, 0, 1, 0);
        x.begin(6);
        due("again not by a row apart", NONE, x.fire(5, 4));
        Woods.glow(x, 0, 20, 1, 0);
        x.begin(7);
        due("again none", NONE, x.fire(6, 4));
        againByPatchAlone();
    }

    private static void againByPatchAlone() {
        SmokeWatch x = Woods.crossing();
        x.begin(0);
        x.join(1, 0);
        x.out(0);
        x.begin(3);
        due("again some of the patch", 0, x.fire(1, 4));
        x.report(2, 4, 0, 0, -1, 0);
        x.report(4, 3, 0, -1, 0, 0);
        x.begin(5);
        due("again none of the patch", NONE, x.fire(2, 4));
    }

    private static void patch() {
        SmokeWatch x = Woods.crossing();
        due("patch none", NONE, x.patch(0, 0));
        x.begin(0);
        for (int k = 0; k < 4; k++) {
            due("patch " + k, 33 + k, x.patch(0, k));
        }
        due("patch end", NONE, x.patch(0, 4));
        due("patch -1", NONE, x.patch(0, -1));
        due("patch far", NONE, x.patch(0, Integer.MAX_VALUE));
        due("patch fire -1", NONE, x.patch(-1, 0));
        due("patch fire 20", NONE, x.patch(20, 0));
        x.join(1, 0);
        due("patch common", 34, x.patch(0, 0));
        due("patch common end", NONE, x.patch(0, 1));
        x.apart(1);
        due("patch again", 33, x.patch(0, 0));
        x.apart(0);
        due("patch gone", NONE, x.patch(0, 0));
    }

    private static void fewest() {
        SmokeWatch x = Woods.crossing();
        due("fewest none", 0, x.fewest(3, 9999));
        due("fewest of a turned range", 0, x.fewest(2, 1));
        due("fewest one", 1, x.fewest(2, 2));
        // Tower 0 twice in minute 1; the column of tower 1 meets one of the two.
        due("fewest two of one tower", 2, x.fewest(1, 1));
        due("fewest", 2, x.fewest(0, 9999));
        x.remark(1);
        due("fewest without remarks", 2, x.fewest(0, 9999));
        x.begin(0);
        x.out(0);
        due("fewest whatever they are in", 2, x.fewest(Integer.MIN_VALUE, Integer.MAX_VALUE));
        for (int i = 5; i < 11; i++) {
            x.report(4, 0, 8, 0, 1, 0);
        }
        due("fewest of 10", 3, x.fewest(0, 9999));
        x.sight(0, 0, 9, 0, -1, 0, 0, 0);
        due("fewest without squares", NONE, x.fewest(9, 9));
        due("fewest of 11", NONE, x.fewest(0, 9));
        x.clear(11);
        x.report(4, 0, 9, 0, 1, 0);
        due("fewest of 11 with squares", NONE, x.fewest(0, 9));
        due("fewest of 7", 1, x.fewest(8, 9));
        fewestNotGreedy();
    }

    /** Joining each to the first that it fits would make three: {0, 1}, {2}, {3}. */
    private static void fewestNotGreedy() {
        SmokeWatch x = Woods.flat(1, 9);
        x.tower(0, 0, 100);
        x.tower(0, 4, 100);
        x.tower(0, 8, 100);
        x.sight(1, 1, 1, 0, 1, 0, 4, 0);
        x.sight(1, 2, 1, 0, -1, 0, 7, 0);
        x.sight(1, 0, 2, 0, 1, 0, 3, 0);
        x.sight(1, 2, 1, 0, -1, 0, 3, 0);
        // 0: 5..8, 1: 1..7, 2: 1..3, 3: 5..7; 1 and 3 are of one tower and minute.
        due("fewest not greedy", 2, x.fewest(0, 9));
        // 4: 8 alone, so that it goes with 0, but then 3 is left alone.
        x.report(0, 7, 3, 0, 1, 0);
        due("fewest of five", 3, x.fewest(0, 9));
    }

    private static void next() {
        SmokeWatch x = Woods.flat(5, 5);
        x.report(2, 0, 0, 0, 1, 0);
        due("next no fire", NONE, x.next(0));
        x.begin(0);
        due("next no tower", NONE, x.next(0));
        due("next -1", NONE, x.next(-1));
        due("next 20", NONE, x.next(20));
        nextHalves();
        SmokeWatch y = Woods.crossing();
        y.begin(0);
        y.out(0);
        due("next out", NONE, y.next(0));
        y.undo();
        y.apart(0);
        due("next gone", NONE, y.next(0));
    }

    private static void nextHalves() {
        SmokeWatch x = Woods.flat(5, 5);
        x.tower(0, 0, 50);
        x.tower(0, 2, 50);
        x.report(2, 0, 0, 0, 1, 0);
        x.begin(0);
        // The patch is (2, 1) to (2, 4). Tower 0 by d 3 (down right): (2, 1)? aside 1 of 3 along: 33 <= 41 yes;
        // (2, 2) yes; (2, 3) aside 1 of 5 yes; (2, 4) aside 2 of 6: 33 yes. All four: 4.
        // By d 4 (down): (2, 1) aside 1 of 2: 50 > 41. None: 4. By d 2 (right): (2, 4): 2 of 4: 50. None.
        // Tower 1 by d 4: (2, 2) alone: 3; by d 3 (down right): (2, 3) 33 and (2, 4) 0: 2.
        due("next", 8 + 3, x.next(0));
        SmokeWatch low = Woods.flat(5, 5);
        low.tower(0, 0, 50);
        low.tower(0, 2, 50);
        low.square(1, 3, 3000, 1);
        low.report(2, 0, 0, 0, 1, 0);
        low.begin(0);
        // (2, 3) and (2, 4) are hidden from tower 1 now: none of its d is better than one of four.
        // From tower 0 (2, 4) alone is hidden: d 3 has three of four, and comes first.
        due("next hidden", 3, low.next(0));
    }

    private static void crew() {
        SmokeWatch x = Woods.flat(1, 2);
        due("crew missing", NONE, x.crew(1, 0));
        due("crew column -1", NONE, x.crew(0, -1));
        due("crew column 2", NONE, x.crew(0, 2));
        for (int k = 0; k < 8; k++) {
            due("crew " + k, k, x.crew(0, 1));
        }
        due("crew 9th", NONE, x.crew(0, 1));
        due("crew count", 8, x.count(3));
        due("crew acts", 8, x.count(4));
    }

    private static void move() {
        SmokeWatch x = new SmokeWatch();
        x.row(0, 3, 0, 1);
        x.row(2, 3, 0, 1);
        due("move no crew", false, x.move(0, 0, 0));
        x.crew(0, 0);
        due("move crew -1", false, x.move(-1, 0, 0));
        due("move crew 1", false, x.move(1, 0, 0));
        due("move missing", false, x.move(0, 1, 0));
        due("move no way", false, x.move(0, 2, 0));
        due("move wrong is no act", 1, x.count(4));
        due("move", true, x.move(0, 0, 2));
        due("move place", 2, x.place(0));
        due("move to its own", true, x.move(0, 0, 2));
        due("move acts", 3, x.count(4));
        x.undo();
        due("move own undone", 2, x.place(0));
        x.undo();
        due("move undone", 0, x.place(0));
    }

    private static void place() {
        SmokeWatch x = Woods.flat(16, 16);
        x.crew(15, 15);
        x.crew(3, 4);
        due("place 0", 255, x.place(0));
        due("place 1", 52, x.place(1));
        due("place 2", NONE, x.place(2));
        due("place -1", NONE, x.place(-1));
    }

    private static void minutes() {
        SmokeWatch x = Woods.flat(3, 3);
        x.square(0, 1, 59, 7);
        due("minutes no crew", NONE, x.minutes(0, 0, 0));
        x.crew(0, 0);
        due("minutes own", 0, x.minutes(0, 0, 0));
        // 7, and a tenth of 59 cut: 12.
        due("minutes uphill", 12, x.minutes(0, 0, 1));
        due("minutes round about", 4, x.minutes(0, 0, 2));
        due("minutes crew 1", NONE, x.minutes(1, 0, 0));
        due("minutes crew -1", NONE, x.minutes(-1, 0, 0));
        due("minutes missing", NONE, x.minutes(0, 3, 0));
        due("minutes column 16", NONE, x.minutes(0, 0, 16));
        x.crew(0, 1);
        due("minutes downhill", 1, x.minutes(1, 0, 0));
        due("minutes down and back up", 1, x.minutes(1, 0, 2));
        minutesNoWay();
    }

    private static void minutesNoWay() {
        SmokeWatch x = new SmokeWatch();
        x.row(0, 1, 0, 1);
        x.row(1, 2, 0, 60);
        x.row(2, 3, 0, 1);
        x.row(4, 1, 0, 1);
        x.crew(0, 0);
        due("minutes over rows of their own lengths", 60 + 1 + 1 + 1, x.minutes(0, 2, 2));
        due("minutes no way", NONE, x.minutes(0, 4, 0));
        x.row(0, 16, 0, 1);
        x.row(1, 1, 0, 1);
        x.crew(0, 15);
        due("minutes no step round the edge", 16, x.minutes(0, 1, 0));
    }

    private static void way() {
        SmokeWatch x = Woods.flat(3, 3);
        due("way no crew", NONE, x.way(0, 0, 0, 0));
        x.crew(2, 2);
        int[] want = {34, 18, 2, 1, 0, NONE};
        for (int i = 0; i < want.length; i++) {
            due("way up first " + i, want[i], x.way(0, 0, 0, i));
        }
        due("way -1", NONE, x.way(0, 0, 0, -1));
        due("way far", NONE, x.way(0, 0, 0, Integer.MAX_VALUE));
        due("way missing", NONE, x.way(0, 3, 0, 0));
        due("way own", 34, x.way(0, 2, 2, 0));
        due("way own end", NONE, x.way(0, 2, 2, 1));
        due("way crew 1", NONE, x.way(1, 0, 0, 0));
        due("way crew -1", NONE, x.way(-1, 0, 0, 0));
        x.crew(0, 0);
        int[] right = {0, 1, 2, 18, 34, NONE};
        for (int i = 0; i < right.length; i++) {
            due("way right first " + i, right[i], x.way(1, 2, 2, i));
        }
        SmokeWatch dear = Woods.flat(3, 3);
        dear.square(0, 1, 0, 2);
        dear.crew(0, 0);
        int[] round = {0, 16, 17, 18, 34, NONE};
        for (int i = 0; i < round.length; i++) {
            due("way least sum " + i, round[i], dear.way(0, 2, 2, i));
        }
        SmokeWatch apart = new SmokeWatch();
        apart.row(0, 1, 0, 1);
        apart.row(2, 1, 0, 1);
        apart.crew(0, 0);
        due("way none", NONE, apart.way(0, 2, 0, 0));
    }

    private static void send() {
        SmokeWatch x = Woods.fires(2);
        due("send no crews", NONE, x.send());
        x.crew(0, 1);
        due("send more fires than crews", NONE, x.send());
        due("send nothing told", NONE, x.sent(0));
        x.crew(0, 2);
        // Both rows of crews have the sum 3: (0 + 3) and (1 + 2); the least row is 0, 1.
        due("send", 3, x.send());
        due("send fire 0", 0, x.sent(0));
        due("send fire 1", 1, x.sent(1));
        x.crew(2, 2);
        due("send with a third", 1, x.send());
        due("send third", 2, x.sent(1));
        x.out(0);
        due("send to what burns", 1, x.send());
        due("send not to one that is out", NONE, x.sent(0));
        due("send to the other", 2, x.sent(1));
        x.out(1);
        due("send none burns", NONE, x.send());
        due("send stays", 2, x.sent(1));
        sendNeedsAll();
        sendNoWay();
    }

    private static void sendNeedsAll() {
        SmokeWatch x = Woods.fires(8);
        for (int k = 0; k < 8; k++) {
            x.crew(2 * (7 - k), 1);
        }
        due("send eight", 0, x.send());
        for (int f = 0; f < 8; f++) {
            due("send eight " + f, 7 - f, x.sent(f));
        }
    }

    private static void sendNoWay() {
        SmokeWatch x = new SmokeWatch();
        x.row(0, 3, 0, 1);
        x.row(2, 3, 0, 1);
        x.report(0, 0, 0, 0, 1, 0);
        x.report(2, 0, 0, 0, 1, 0);
        x.crew(0, 0);
        x.crew(0, 1);
        x.begin(0);
        due("send one", 0, x.send());
        due("send crew on the middle", 1, x.sent(0));
        x.begin(1);
        due("send no way", NONE, x.send());
        due("send told before stays", 1, x.sent(0));
        due("send told before stays for others", NONE, x.sent(1));
        x.crew(2, 2);
        due("send with a way", 1, x.send());
        due("send by a way", 2, x.sent(1));
    }

    private static void sent() {
        SmokeWatch x = Woods.fires(1);
        x.crew(0, 1);
        due("sent ahead", NONE, x.sent(0));
        x.send();
        due("sent", 0, x.sent(0));
        due("sent -1", NONE, x.sent(-1));
        due("sent 1", NONE, x.sent(1));
        due("sent 20", NONE, x.sent(20));
        due("sent far", NONE, x.sent(Integer.MAX_VALUE));
        x.undo();
        due("sent stays behind an undoing", 0, x.sent(0));
        x.row(0, 4, 0, 1);
        due("sent behind a new row", NONE, x.sent(0));
    }

    private static void blinds() {
        SmokeWatch x = Woods.flat(1, 5);
        due("blinds without towers", 5, x.blinds());
        due("blind 0", 0, x.blind(0));
        due("blind 4", 4, x.blind(4));
        due("blind 5", NONE, x.blind(5));
        due("blind -1", NONE, x.blind(-1));
        x.square(0, 2, 100, 1);
        x.tower(0, 0, 10);
        due("blinds", 2, x.blinds());
        due("blind first", 3, x.blind(0));
        due("blind second", 4, x.blind(1));
        due("blind third", NONE, x.blind(2));
        x.square(0, 2, 0, 1);
        due("blinds behind square()", 0, x.blinds());
        due("blind behind square()", NONE, x.blind(0));
        x.square(0, 2, 100, 1);
        x.tower(0, 4, 10);
        due("blinds behind tower()", 0, x.blinds());
        x.row(3, 2, 0, 1);
        due("blinds behind row()", 7, x.blinds());
    }

    private static void best() {
        SmokeWatch x = Woods.flat(1, 5);
        due("best of a flat wood", 0, x.best());
        x.square(0, 2, 100, 1);
        due("best on the hill", 2, x.best());
        x.tower(0, 0, 10);
        // (0, 3) and (0, 4) are blind; the hill, (0, 3) and (0, 4) see both.
        due("best the least number", 2, x.best());
        // From 110 on the hill to 0 at (0, 4): out of (0, 3) at 3 / 4: 27.5.
        x.square(0, 3, 28, 1);
        due("best behind a second ridge", 3, x.best());
        x.tower(0, 4, 10);
        due("best none", NONE, x.best());
        SmokeWatch none = Woods.flat(1, 1);
        none.tower(0, 0, 0);
        due("best of one seen square", NONE, none.best());
        SmokeWatch ten = Woods.flat(1, 3);
        // From 10 to 0 over two squares: out of (0, 1) at 3 / 4: 2.5.
        ten.square(0, 1, 2, 1);
        due("best sees over 2", 0, ten.best());
        ten.square(0, 1, 3, 1);
        due("best does not see over 3", 1, ten.best());
    }

    private static void claim() {
        SmokeWatch x = new SmokeWatch();
        due("claim place -1", false, x.claim(-1, 0));
        due("claim place 60", false, x.claim(60, 0));
        due("claim fire -2", false, x.claim(0, -2));
        due("claim fire 60", false, x.claim(0, 60));
        due("claim nothing's place", true, x.claim(59, 59));
        due("claim 0", true, x.claim(0, 0));
        due("claim alone", true, x.claim(0, NONE));
        due("claim is no act", 0, x.count(4));
    }

    private static void check() {
        SmokeWatch x = Woods.crossing();
        due("check alone", NONE, x.check());
        x.claim(0, 7);
        x.claim(1, 7);
        x.claim(3, 7);
        due("check right", NONE, x.check());
        x.claim(2, 7);
        due("check same tower and minute", 2, x.check());
        x.claim(2, 8);
        due("check of another", NONE, x.check());
        x.claim(3, 8);
        due("check no square in common", 3, x.check());
        x.claim(3, NONE);
        x.report(2, 3, 0, 0, 1, 0);
        x.claim(4, 7);
        // It meets the row, but not what the row and the column have in common.
        due("check of all ahead", 4, x.check());
        x.claim(1, NONE);
        due("check of those left", NONE, x.check());
        x.remark(1);
        x.claim(5, 7);
        due("check without remarks", NONE, x.check());
        x.clear(0);
        x.claim(3, 7);
        due("check of a cleared place", NONE, x.check());
        x.sight(0, 0, 0, 0, -1, 0, 0, 0);
        due("check without squares", 0, x.check());
        x.claim(0, NONE);
        due("check alone without squares", NONE, x.check());
        SmokeWatch callers = Woods.flat(1, 3);
        callers.report(0, 0, 5, 0, 1, 0);
        callers.report(0, 0, 5, 0, 1, 0);
        callers.claim(0, 0);
        callers.claim(1, 0);
        due("check callers are no tower", NONE, callers.check());
    }

    private static void undo() {
        SmokeWatch x = Woods.crossing();
        x.remark(12);
        x.clear(4);
        x.begin(0);
        x.join(1, 0);
        x.apart(0);
        x.out(0);
        x.crew(1, 1);
        x.move(0, 4, 4);
        due("undo acts", 12, x.count(4));
        due("undo move", true, x.undo());
        due("undo move place", 17, x.place(0));
        due("undo crew", true, x.undo());
        due("undo crew count", 0, x.count(3));
        due("undo out", true, x.undo());
        due("undo out how", 0, x.fire(0, 0));
        due("undo apart", true, x.undo());
        due("undo apart fire", 0, x.log(0, 4));
        due("undo apart patch", 1, x.fire(0, 2));
        due("undo join", true, x.undo());
        due("undo join fire", NONE, x.log(1, 4));
        due("undo join patch", 4, x.fire(0, 2));
        due("undo begin", true, x.undo());
        due("undo begin fire", NONE, x.log(0, 4));
        due("undo begin fires ever", 0, x.count(2));
        due("undo begin no fire", NONE, x.fire(0, 0));
        due("undo clear", true, x.undo());
        due("undo clear remark", 12, x.log(4, 1));
        due("undo remark", true, x.undo());
        due("undo remark kind", 6, x.log(4, 0));
        for (int i = 3; i >= 0; i--) {
            due("undo sight", true, x.undo());
            due("undo sight kind", 6, x.log(i, 0));
            due("undo sight count", i, x.count(1));
        }
        due("undo none", false, x.undo());
        due("undo towers stay", 2, x.count(0));
    }

    private static void undoLimit() {
        SmokeWatch x = Woods.flat(1, 2);
        x.crew(0, 0);
        for (int i = 0; i < 60; i++) {
            x.move(0, 0, 1 - i % 2);
        }
        due("undo limit", 50, x.count(4));
        for (int i = 0; i < 50; i++) {
            due("undo " + i, true, x.undo());
            due("undo place " + i, 1 - i % 2, x.place(0));
        }
        due("undo beyond the limit", false, x.undo());
        due("undo crew is kept", 1, x.count(3));
        due("undo acts anew", true, x.move(0, 0, 1));
        due("undo one", 1, x.count(4));
    }

    private static void undoKeepsSquares() {
        SmokeWatch x = Woods.flat(1, 5);
        x.tower(0, 0, 10);
        x.sight(0, 0, 1, 0, 1, 0, 0, 0);
        x.clear(0);
        due("undo square() of an empty log", true, x.square(0, 2, 100, 1));
        due("undo clear", true, x.undo());
        due("undo brings the log back as it was", 4, x.log(0, 3));
    }

    private static void count() {
        SmokeWatch x = Woods.crossing();
        x.begin(0);
        x.crew(0, 0);
        int[] want = {2, 4, 1, 1, 6, 25};
        for (int what = 0; what < want.length; what++) {
            due("count " + what, want[what], x.count(what));
        }
        due("count 6", NONE, x.count(6));
        due("count -1", NONE, x.count(-1));
        x.apart(0);
        due("count fires ever", 1, x.count(2));
    }
}
