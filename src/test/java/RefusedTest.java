import java.util.LinkedHashMap;
import java.util.List;
import java.util.Map;
import java.util.function.Supplier;
import java.util.function.ToIntFunction;

/** "False, doing nothing" and "NONE, doing nothing": what later calls answer is as ahead of it. */
public final class RefusedTest {
    private static final int NONE = SmokeWatch.NONE;
    private static final int LEAST = Integer.MIN_VALUE;
    private static final int MOST = Integer.MAX_VALUE;
    private static final int[] FAR = {LEAST, -1, MOST};
    private static final Checks CHECKS = new Checks("RefusedTest");

    private final String name;
    private final Supplier<SmokeWatch> state;
    private final List<String> due;

    private RefusedTest(String name, Supplier<SmokeWatch> state) {
        this.name = name;
        this.state = state;
        this.due = Portrait.of(state);
    }

    public static void main(String[] args) {
        Map<String, ToIntFunction<SmokeWatch>> never = refusedAlways();
        Map<String, Supplier<SmokeWatch>> states = new LinkedHashMap<>();
        states.put("new", SmokeWatch::new);
        states.put("bare", RefusedTest::bare);
        states.put("busy", RefusedTest::busy);
        states.put("full", RefusedTest::full);
        states.forEach((name, state) -> {
            RefusedTest test = new RefusedTest(name, state);
            never.forEach(test::refused);
            asking().forEach(test::changesNothing);
        });
        refusedWhenNew();
        refusedWhenBusy();
        refusedWhenFull();
        portraitsTellStatesApart();
        CHECKS.finish();
    }

    /** False counts as NONE here, so that a place 0 or a crew 0 is not taken for a refusal. */
    private static int told(boolean did) {
        return did ? 1 : NONE;
    }

    private void refused(String what, ToIntFunction<SmokeWatch> call) {
        CHECKS.due(name + ": " + what, NONE, call.applyAsInt(state.get()));
        changesNothing(what, call);
    }

    private static List<String> portraitBehind(Supplier<SmokeWatch> state, ToIntFunction<SmokeWatch> call) {
        return Portrait.of(() -> {
            SmokeWatch x = state.get();
            call.applyAsInt(x);
            return x;
        });
    }

    private void changesNothing(String what, ToIntFunction<SmokeWatch> call) {
        List<String> behind = portraitBehind(state, call);
        for (int part = 0; part < due.size(); part++) {
            CHECKS.same(name + ": behind " + what + ", part " + part, due.get(part), behind.get(part));
        }
    }

    // ---- states

    /** A wood with a short and a missing row, and towers: the ground can be changed still. */
    private static SmokeWatch bare() {
        SmokeWatch x = Woods.flat(5, 5);
        x.row(1, 3, 0, 1);
        x.row(5, 0, 0, 0);
        x.square(2, 2, 6, 9);
        x.tower(0, 0, 10);
        x.tower(4, 4, 3);
        return x;
    }

    /** Fires that burn, are out and are gone, crews that were sent, claims, and something cleared. */
    private static SmokeWatch busy() {
        SmokeWatch x = bare();
        Woods.glow(x, 0, 1, 1, 1);
        x.sight(1, 1, 1, -1, 0, 50, 3, 0);
        x.sight(2, 0, 2, 0, 1, 100, 9, Float.floatToRawIntBits(0.4f));
        x.report(4, 0, 3, -1, 1, 80);
        x.remark(42);
        x.sight(0, 0, 4, 1, 0, 60, 0, 0);
        x.report(4, 0, 3, 1, 0, 0);
        x.sight(0, 1, 5, 0, -1, 60, 0, 0);
        x.remark(7);
        x.clear(8);
        x.begin(0);
        x.join(3, 0);
        x.begin(2);
        x.begin(1);
        x.out(1);
        x.apart(1);
        x.begin(5);
        x.crew(0, 0);
        x.crew(3, 3);
        x.crew(4, 1);
        x.send();
        x.move(1, 3, 4);
        x.move(0, 1, 2);
        x.claim(0, 5);
        x.claim(3, 5);
        x.claim(7, 5);
        x.claim(12, 5);
        return x;
    }

    /** All that the document bounds is at its bound. */
    private static SmokeWatch full() {
        SmokeWatch x = Woods.flat(5, 5);
        for (int k = 0; k < 8; k++) {
            x.tower(k % 5, k / 5, 10 * k);
            x.crew(k % 5, 4 - k / 5);
        }
        for (int i = 0; i < 60; i++) {
            x.sight(3, i % 8, i, 1, 1, 200, 0, 0);
            x.claim(i, i % 7);
        }
        for (int f = 0; f < 20; f++) {
            x.begin(f);
        }
        for (int f = 4; f < 20; f++) {
            x.out(f);
        }
        x.send();
        return x;
    }

    // ---- calls

    private static void refusedWhenNew() {
        RefusedTest test = new RefusedTest("new", SmokeWatch::new);
        test.refused("tower on no wood", x -> x.tower(0, 0, 0));
        test.refused("square of no wood", x -> told(x.square(0, 0, 0, 1)));
        test.refused("sight without towers", x -> x.sight(0, 0, 0, 1, 0, 0, 1, 0));
        test.refused("report on no wood", x -> x.report(0, 0, 0, 1, 0, 0));
        test.refused("clear of nothing", x -> told(x.clear(0)));
        test.refused("join of nothing", x -> told(x.join(0, 0)));
        test.refused("begin of nothing", x -> x.begin(0));
        test.refused("apart of nothing", x -> told(x.apart(0)));
        test.refused("office without fires", x -> told(x.office() > 0));
        test.refused("out of none", x -> told(x.out(0)));
        test.refused("crew on no wood", x -> x.crew(0, 0));
        test.refused("move of none", x -> told(x.move(0, 0, 0)));
        test.refused("send to none", SmokeWatch::send);
        test.refused("undo of nothing", x -> told(x.undo()));
    }

    private static void refusedWhenBusy() {
        RefusedTest test = new RefusedTest("busy", RefusedTest::busy);
        test.refused("tower with a log", x -> x.tower(0, 0, 0));
        test.refused("square with a log", x -> told(x.square(0, 0, 9, 9)));
        test.refused("clear of one that is joined", x -> told(x.clear(0)));
        test.refused("clear of one whose fire is out", x -> told(x.clear(2)));
        test.refused("clear of a cleared place", x -> told(x.clear(8)));
        test.refused("join of one that is in one", x -> told(x.join(0, 3)));
        test.refused("join of a remark", x -> told(x.join(4, 0)));
        test.refused("join of nothing", x -> told(x.join(9, 0)));
        test.refused("join of one without squares", x -> told(x.join(6, 0)));
        test.refused("join to one that is out", x -> told(x.join(1, 1)));
        test.refused("join to one that is gone", x -> told(x.join(1, 2)));
        test.refused("join to none", x -> told(x.join(1, 4)));
        test.refused("begin of one that is in one", x -> x.begin(3));
        test.refused("begin of a remark", x -> x.begin(4));
        test.refused("begin of one without squares", x -> x.begin(6));
        test.refused("apart of one in none", x -> told(x.apart(1)));
        test.refused("apart of one whose fire is out", x -> told(x.apart(2)));
        test.refused("out of one that is out", x -> told(x.out(1)));
        test.refused("out of one that is gone", x -> told(x.out(2)));
        test.refused("move to a missing square", x -> told(x.move(0, 1, 3)));
        test.refused("move of none", x -> told(x.move(3, 0, 0)));
        test.refused("fewest with one without squares", x -> x.fewest(0, 9999));
    }

    private static void refusedWhenFull() {
        RefusedTest test = new RefusedTest("full", RefusedTest::full);
        for (int kind = 0; kind < 4; kind++) {
            int k = kind;
            test.refused("61st, kind " + kind, x -> x.sight(k, 0, 0, 1, 0, 0, 1, 0));
        }
        test.refused("61st, a report", x -> x.report(0, 0, 0, 1, 0, 0));
        test.refused("61st, a remark", x -> x.remark(1));
        test.refused("ninth tower", x -> x.tower(0, 0, 0));
        test.refused("ninth crew", x -> x.crew(0, 0));
        test.refused("21st fire", x -> x.begin(59));
        test.refused("fewest of more than ten", x -> x.fewest(0, 9999));
        Supplier<SmokeWatch> nineBurn = () -> {
            SmokeWatch x = full();
            for (int i = 0; i < 5; i++) {
                x.undo();
            }
            return x;
        };
        new RefusedTest("nine burn", nineBurn).refused("send", SmokeWatch::send);
    }

    /** Calls that are refused in every state: some argument is not as told. */
    private static Map<String, ToIntFunction<SmokeWatch>> refusedAlways() {
        Map<String, ToIntFunction<SmokeWatch>> calls = new LinkedHashMap<>();
        for (int far : FAR) {
            calls.put("row r " + far, x -> told(x.row(far, 1, 0, 1)));
            calls.put("row n " + far, x -> told(x.row(0, far, 0, 1)));
            calls.put("square r " + far, x -> told(x.square(far, 0, 0, 1)));
            calls.put("square c " + far, x -> told(x.square(0, far, 0, 1)));
            calls.put("tower r " + far, x -> x.tower(far, 0, 0));
            calls.put("tower c " + far, x -> x.tower(0, far, 0));
            calls.put("tower height " + far, x -> x.tower(0, 0, far));
            calls.put("sight kind " + far, x -> x.sight(far, 0, 0, 1, 0, 0, 1, 0));
            calls.put("sight t " + far, x -> x.sight(0, far, 0, 1, 0, 0, 1, 0));
            calls.put("sight minute " + far, x -> x.sight(0, 0, far, 1, 0, 0, 1, 0));
            calls.put("sight side " + far, x -> x.sight(0, 0, 0, 1, 0, far, 1, 0));
            calls.put("sight reach " + far, x -> x.sight(1, 0, 0, 1, 0, 0, far, 0));
            calls.put("report r " + far, x -> x.report(far, 0, 0, 1, 0, 0));
            calls.put("report c " + far, x -> x.report(0, far, 0, 1, 0, 0));
            calls.put("report minute " + far, x -> x.report(0, 0, far, 1, 0, 0));
            calls.put("report side " + far, x -> x.report(0, 0, 0, 1, 0, far));
            calls.put("clear " + far, x -> told(x.clear(far)));
            calls.put("join i " + far, x -> told(x.join(far, 0)));
            calls.put("join f " + far, x -> told(x.join(1, far)));
            calls.put("begin " + far, x -> x.begin(far));
            calls.put("apart " + far, x -> told(x.apart(far)));
            calls.put("out " + far, x -> told(x.out(far)));
            calls.put("crew r " + far, x -> x.crew(far, 0));
            calls.put("crew c " + far, x -> x.crew(0, far));
            calls.put("move k " + far, x -> told(x.move(far, 0, 0)));
            calls.put("move r " + far, x -> told(x.move(0, far, 0)));
            calls.put("move c " + far, x -> told(x.move(0, 0, far)));
            calls.put("claim i " + far, x -> told(x.claim(far, 0)));
        }
        putNearest(calls);
        return calls;
    }

    /** The first values that are refused, where they are not -1. */
    private static void putNearest(Map<String, ToIntFunction<SmokeWatch>> calls) {
        calls.put("row 16", x -> told(x.row(16, 1, 0, 1)));
        calls.put("row 16 missing", x -> told(x.row(16, 0, 0, 1)));
        calls.put("row of 17", x -> told(x.row(0, 17, 0, 1)));
        calls.put("row height -1001", x -> told(x.row(0, 5, -1001, 1)));
        calls.put("row height 3001", x -> told(x.row(0, 5, 3001, 1)));
        calls.put("row minutes 0", x -> told(x.row(0, 5, 0, 0)));
        calls.put("row minutes 61", x -> told(x.row(0, 5, 0, 61)));
        calls.put("square c 5", x -> told(x.square(0, 5, 0, 1)));
        calls.put("square r 5", x -> told(x.square(5, 0, 0, 1)));
        calls.put("square height -1001", x -> told(x.square(0, 1, -1001, 1)));
        calls.put("square height 3001", x -> told(x.square(0, 1, 3001, 1)));
        calls.put("square minutes 0", x -> told(x.square(0, 1, 0, 0)));
        calls.put("square minutes 61", x -> told(x.square(0, 1, 0, 61)));
        calls.put("tower r 5", x -> x.tower(5, 0, 0));
        calls.put("tower height 101", x -> x.tower(0, 0, 101));
        calls.put("sight kind 4", x -> x.sight(4, 0, 0, 1, 0, 0, 1, 0));
        calls.put("sight t 8", x -> x.sight(0, 8, 0, 1, 0, 0, 1, 0));
        calls.put("sight minute 10000", x -> x.sight(0, 0, 10000, 1, 0, 0, 1, 0));
        calls.put("sight down -51", x -> x.sight(0, 0, 0, -51, 0, 0, 1, 0));
        calls.put("sight right 51", x -> x.sight(0, 0, 0, 0, 51, 0, 1, 0));
        calls.put("sight without direction", x -> x.sight(0, 0, 0, 0, 0, 0, 1, 0));
        calls.put("sight side 401", x -> x.sight(0, 0, 0, 1, 0, 401, 1, 0));
        calls.put("sight reach 0", x -> x.sight(2, 0, 0, 1, 0, 0, 0, 0));
        calls.put("sight reach 41", x -> x.sight(2, 0, 0, 1, 0, 0, 41, 0));
        calls.put("sight haze above 1", x -> x.sight(2, 0, 0, 1, 0, 0, 9, 0x3F800001));
        calls.put("sight haze no number", x -> x.sight(2, 0, 0, 1, 0, 0, 9, 0x7FC00000));
        calls.put("report r 5", x -> x.report(5, 0, 0, 1, 0, 0));
        calls.put("report minute 10000", x -> x.report(0, 0, 10000, 1, 0, 0));
        calls.put("report down 51", x -> x.report(0, 0, 0, 51, 0, 0));
        calls.put("report right -51", x -> x.report(0, 0, 0, 0, -51, 0));
        calls.put("report without direction", x -> x.report(0, 0, 0, 0, 0, 0));
        calls.put("report side 401", x -> x.report(0, 0, 0, 1, 0, 401));
        calls.put("clear 60", x -> told(x.clear(60)));
        calls.put("join i 60", x -> told(x.join(60, 0)));
        calls.put("join f 20", x -> told(x.join(1, 20)));
        calls.put("begin 60", x -> x.begin(60));
        calls.put("apart 60", x -> told(x.apart(60)));
        calls.put("out 20", x -> told(x.out(20)));
        calls.put("crew r 5", x -> x.crew(5, 0));
        calls.put("move k 8", x -> told(x.move(8, 0, 0)));
        calls.put("move r 5", x -> told(x.move(0, 5, 0)));
        calls.put("claim i 60", x -> told(x.claim(60, 0)));
        calls.put("claim f 60", x -> told(x.claim(0, 60)));
        calls.put("claim f -2", x -> told(x.claim(0, -2)));
    }

    /** Calls that answer and do nothing else, whatever they are asked. */
    private static Map<String, ToIntFunction<SmokeWatch>> asking() {
        Map<String, ToIntFunction<SmokeWatch>> calls = new LinkedHashMap<>();
        for (int n : new int[] {LEAST, -1, 0, 3, MOST}) {
            calls.put("see " + n, x -> x.see(0, n, 0) + x.see(n, 4, 4));
            calls.put("hidden " + n, x -> x.hidden(0, n, 0) + x.hidden(n, 4, 4));
            calls.put("log " + n, x -> x.log(n, 6) + x.log(1, n));
            calls.put("squares " + n, x -> x.squares(n, 0) + x.squares(0, n));
            calls.put("fire " + n, x -> x.fire(n, 3) + x.fire(0, n));
            calls.put("patch " + n, x -> x.patch(n, 0) + x.patch(0, n));
            calls.put("fewest " + n, x -> x.fewest(n, 4) + x.fewest(0, n));
            calls.put("next " + n, x -> x.next(n));
            calls.put("place " + n, x -> x.place(n));
            calls.put("minutes " + n, x -> x.minutes(n, 4, 4) + x.minutes(0, n, 0));
            calls.put("way " + n, x -> x.way(n, 4, 4, 1) + x.way(0, 4, 4, n));
            calls.put("sent " + n, x -> x.sent(n));
            calls.put("blind " + n, x -> x.blind(n));
            calls.put("count " + n, x -> x.count(n));
        }
        calls.put("blinds", SmokeWatch::blinds);
        calls.put("best", SmokeWatch::best);
        calls.put("check", SmokeWatch::check);
        return calls;
    }

    /** A test of this test: calls that do something are seen in the portrait. */
    private static void portraitsTellStatesApart() {
        Map<String, ToIntFunction<SmokeWatch>> calls = new LinkedHashMap<>();
        calls.put("row", x -> told(x.row(9, 0, 0, 0)));
        calls.put("remark", x -> x.remark(1));
        calls.put("clear", x -> told(x.clear(4)));
        calls.put("join", x -> told(x.join(7, 3)));
        calls.put("begin", x -> x.begin(7));
        calls.put("apart", x -> told(x.apart(3)));
        calls.put("out", x -> told(x.out(0)));
        calls.put("crew", x -> x.crew(2, 2));
        calls.put("move", x -> told(x.move(0, 2, 2)));
        calls.put("send", SmokeWatch::send);
        calls.put("claim", x -> told(x.claim(0, 6)));
        calls.put("undo", x -> told(x.undo()));
        List<String> as = Portrait.of(RefusedTest::busy);
        calls.forEach((what, call) -> {
            CHECKS.due(what + " is seen", false, as.equals(portraitBehind(RefusedTest::busy, call)));
        });
    }
}
