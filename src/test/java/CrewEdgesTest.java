import java.util.Arrays;

/** Crews, their ways and the sending at the edges: Term 4, promises 22 to 28. */
public final class CrewEdgesTest {
    private static final int NONE = SmokeWatch.NONE;
    private static final int LEAST = Integer.MIN_VALUE;
    private static final int MOST = Integer.MAX_VALUE;
    private static final Checks CHECKS = new Checks("CrewEdgesTest");

    public static void main(String[] args) {
        crewPlaces();
        crewsUpTo8();
        moveNoSuch();
        moveNoWay();
        moveToItsOwn();
        placeNoSuch();
        minutesNoSuch();
        minutesOfAStep();
        minutesOfTheHighest();
        minutesOverRoughGround();
        minutesBesideAlone();
        minutesNotRoundTheEdge();
        minutesNoWay();
        wayNoSuch();
        wayOfItsOwn();
        wayWhereTheyPart();
        wayOfAllSteps();
        wayLongest();
        sendNoFireBurns();
        sendMoreThanCrews();
        sendEightOfEight();
        sendCannotBeDone();
        sendLeastSum();
        sendLeastRow();
        sendEachItsOwn();
        sendToTheMiddle();
        sentNoSuch();
        sentOfTheLastFire();
        sentOfTheLatest();
        CHECKS.finish();
    }

    // Promise 22: "NONE, doing nothing: it's missing"
    private static void crewPlaces() {
        SmokeWatch x = new SmokeWatch();
        CHECKS.due("crew in no wood", NONE, x.crew(0, 0));
        x.row(0, 16, 0, 1);
        x.row(15, 2, 0, 1);
        CHECKS.bounds("crew c of a full row", NONE, 0, 15, c -> x.crew(0, c));
        CHECKS.bounds("crew c of a short row", NONE, 0, 1, c -> x.crew(15, c));
        CHECKS.bounds("crew r", NONE, 15, 15, r -> x.crew(r, 0));
        CHECKS.due("crew on a missing row", NONE, x.crew(7, 0));
        CHECKS.row("crews that are there", x::place, 0, 15, 240, 241, 240, 240);
    }

    // Term 4: "CREWS, up to 8"; promise 22: "or there are 8"
    private static void crewsUpTo8() {
        SmokeWatch x = Woods.flat(1, 9);
        for (int k = 0; k < 8; k++) {
            CHECKS.due("crew " + k, k, x.crew(0, k));
        }
        CHECKS.due("ninth crew", NONE, x.crew(0, 8));
        CHECKS.due("crews", 8, x.count(3));
        CHECKS.row("places of crews", x::place, 0, 1, 2, 3, 4, 5, 6, 7);
        x.undo();
        CHECKS.due("crews with one undone", 7, x.count(3));
        CHECKS.due("eighth crew anew", 7, x.crew(0, 8));
        CHECKS.due("its place", 8, x.place(7));
        CHECKS.due("ninth crew still", NONE, x.crew(0, 8));
    }

    // Promise 23: "false, doing nothing: no such crew, it's missing"
    private static void moveNoSuch() {
        SmokeWatch x = Woods.flat(2, 3);
        CHECKS.due("move without crews", false, x.move(0, 0, 0));
        x.crew(0, 0);
        x.crew(0, 0);
        CHECKS.bounds("move k", 0, 0, 1, k -> Woods.num(x.move(k, 1, 1)));
        CHECKS.bounds("move r", 0, 0, 1, r -> Woods.num(x.move(0, r, 1)));
        CHECKS.bounds("move c", 0, 0, 2, c -> Woods.num(x.move(0, 1, c)));
        CHECKS.row("places behind moves", x::place, 18, 17);
        SmokeWatch full = Woods.flat(1, 2);
        for (int k = 0; k < 8; k++) {
            full.crew(0, 0);
        }
        CHECKS.bounds("move k of eight", 0, 0, 7, k -> Woods.num(full.move(k, 0, 1)));
    }

    // Promise 23: "or no WAY leads there"
    private static void moveNoWay() {
        SmokeWatch x = new SmokeWatch();
        x.row(0, 2, 0, 1);
        x.row(2, 2, 0, 1);
        x.crew(0, 0);
        CHECKS.due("move over a missing row", false, x.move(0, 2, 0));
        CHECKS.due("it stays", 0, x.place(0));
        CHECKS.due("no act", 1, x.count(4));
        CHECKS.due("move within the row", true, x.move(0, 0, 1));
        CHECKS.due("an act", 2, x.count(4));
    }

    private static void moveToItsOwn() {
        SmokeWatch x = Woods.flat(1, 1);
        x.crew(0, 0);
        CHECKS.due("move to its own square", true, x.move(0, 0, 0));
        CHECKS.due("it is there", 0, x.place(0));
        CHECKS.due("it is an act", 2, x.count(4));
    }

    // Promise 24: "NONE: no such crew"
    private static void placeNoSuch() {
        SmokeWatch x = Woods.flat(16, 16);
        CHECKS.row("places without crews", x::place);
        x.crew(0, 0);
        x.crew(15, 15);
        CHECKS.row("places", x::place, 0, 255);
    }

    // Promise 25: "(0 to its own); NONE: no such, it's missing"
    private static void minutesNoSuch() {
        SmokeWatch x = Woods.flat(2, 3);
        CHECKS.due("minutes without crews", NONE, x.minutes(0, 0, 0));
        x.crew(0, 0);
        x.crew(1, 1);
        CHECKS.bounds("minutes k", NONE, 0, 1, k -> x.minutes(k, 1, 2));
        CHECKS.bounds("minutes r", NONE, 0, 1, r -> x.minutes(0, r, 2));
        CHECKS.bounds("minutes c", NONE, 0, 2, c -> x.minutes(0, 1, c));
        CHECKS.due("minutes to its own", 0, x.minutes(0, 0, 0));
        CHECKS.due("minutes to its own, the second", 0, x.minutes(1, 1, 1));
    }

    // Term 4: "its MINUTES, and a tenth (cut) of how much higher it is"
    private static void minutesOfAStep() {
        int[][] cases = {{0, 0, 0}, {0, 9, 0}, {0, 10, 1}, {0, 19, 1}, {0, 20, 2}, {-5, 4, 0}, {-5, 5, 1},
            {-1000, 3000, 400}, {-1000, 2999, 399}, {9, 0, 0}, {10, 0, 0}, {3000, -1000, 0}, {-20, -30, 0}};
        for (int[] c : cases) {
            SmokeWatch x = Woods.flat(1, 2);
            x.square(0, 0, c[0], 60);
            x.square(0, 1, c[1], 7);
            x.crew(0, 0);
            CHECKS.due("step from " + c[0] + " to " + c[1], 7 + c[2], x.minutes(0, 0, 1));
        }
    }

    /** Up and down all along: 8 steps up of 60 and 400 minutes, 7 steps down of 60. */
    private static void minutesOfTheHighest() {
        SmokeWatch x = new SmokeWatch();
        x.row(0, 16, -1000, 60);
        for (int c = 1; c < 16; c += 2) {
            x.square(0, c, 3000, 60);
        }
        x.crew(0, 0);
        CHECKS.due("minutes up and down", 8 * 460 + 7 * 60, x.minutes(0, 0, 15));
    }

    private static int roughHeight(int n) {
        return (n / 16 * 37 + n % 16 * 91) % 211 * 19 - 1000;
    }

    private static int roughMinutes(int n) {
        return 1 + (n / 16 * 13 + n % 16 * 7) % 60;
    }

    /** Rough ground: from the far corner the least sums are held against sums made less by and by. */
    private static void minutesOverRoughGround() {
        int area = 12 * 16;
        SmokeWatch x = Woods.flat(12, 16);
        for (int n = 0; n < area; n++) {
            x.square(n / 16, n % 16, roughHeight(n), roughMinutes(n));
        }
        x.crew(11, 15);
        int[] least = leastOverRoughGround(area);
        for (int n = 0; n < area; n++) {
            CHECKS.due("over rough ground to " + n, least[n], x.minutes(0, n / 16, n % 16));
        }
        int sum = 0;
        int at = area - 1;
        for (int i = 1; at != 0 && i < area; i++) {
            int to = x.way(0, 0, 0, i);
            sum += roughStep(at, to);
            at = to;
        }
        CHECKS.due("the way over rough ground has the least sum", least[0], sum);
    }

    private static int roughStep(int from, int to) {
        return roughMinutes(to) + Math.max(0, roughHeight(to) - roughHeight(from)) / 10;
    }

    private static int[] leastOverRoughGround(int area) {
        int[] least = new int[area];
        Arrays.fill(least, 1_000_000);
        least[area - 1] = 0;
        for (int round = 0; round < area; round++) {
            for (int from = 0; from < area; from++) {
                for (int to : new int[] {from - 16, from - 1, from + 1, from + 16}) {
                    boolean beside = Math.abs(to % 16 - from % 16) <= 1;
                    if (to >= 0 && to < area && beside) {
                        least[to] = Math.min(least[to], least[from] + roughStep(from, to));
                    }
                }
            }
        }
        return least;
    }

    // Term 4: "to a square beside (up, left, right, down)"
    private static void minutesBesideAlone() {
        SmokeWatch x = Woods.flat(3, 3);
        x.crew(1, 1);
        int[][] want = {{2, 1, 2}, {1, 0, 1}, {2, 1, 2}};
        for (int n = 0; n < 9; n++) {
            CHECKS.due("steps to " + n, want[n / 3][n % 3], x.minutes(0, n / 3, n % 3));
        }
    }

    // The end of a row is not beside the beginning of the next one, nor the last row beside the first.
    private static void minutesNotRoundTheEdge() {
        SmokeWatch x = new SmokeWatch();
        x.row(0, 16, 0, 1);
        x.row(1, 16, 0, 1);
        x.row(15, 16, 0, 1);
        x.crew(0, 15);
        x.crew(1, 0);
        CHECKS.due("from the end of a row to the next one's first", 16, x.minutes(0, 1, 0));
        CHECKS.due("and back", 16, x.minutes(1, 0, 15));
        CHECKS.due("from the first row to the last", NONE, x.minutes(0, 15, 15));
    }

    // Promise 25: "no WAY"
    private static void minutesNoWay() {
        SmokeWatch x = new SmokeWatch();
        x.row(0, 3, 0, 1);
        x.row(1, 1, 0, 1);
        x.row(2, 3, 0, 1);
        x.row(4, 3, 0, 1);
        x.crew(0, 2);
        CHECKS.due("round a short row", 6, x.minutes(0, 2, 2));
        CHECKS.due("over a missing row", NONE, x.minutes(0, 4, 0));
    }

    // Promise 26: "NONE: none such"
    private static void wayNoSuch() {
        SmokeWatch x = Woods.flat(2, 3);
        x.row(4, 1, 0, 1);
        CHECKS.due("way without crews", NONE, x.way(0, 0, 0, 0));
        x.crew(0, 0);
        x.crew(0, 0);
        CHECKS.row("way", i -> x.way(0, 0, 2, i), 0, 1, 2);
        CHECKS.bounds("way k", NONE, 0, 1, k -> x.way(k, 1, 2, 1));
        CHECKS.bounds("way r", NONE, 0, 1, r -> x.way(0, r, 2, 1));
        CHECKS.bounds("way c", NONE, 1, 2, c -> x.way(0, 0, c, 1));
        CHECKS.row("no way", i -> x.way(0, 4, 0, i));
        CHECKS.row("way to a missing square", i -> x.way(0, 2, 0, i));
    }

    // Promise 26: "(0 its own one)"
    private static void wayOfItsOwn() {
        SmokeWatch x = Woods.flat(16, 16);
        x.crew(15, 15);
        CHECKS.row("way to its own", i -> x.way(0, 15, 15, i), 255);
        CHECKS.row("way to the one beside", i -> x.way(0, 15, 14, i), 255, 254);
    }

    // Term 4: "of all such ways that which goes to the least number at its first step where they part"
    private static void wayWhereTheyPart() {
        SmokeWatch x = Woods.flat(3, 3);
        x.crew(1, 1);
        CHECKS.row("up ahead of left", i -> x.way(0, 0, 0, i), 17, 1, 0);
        CHECKS.row("up ahead of right", i -> x.way(0, 0, 2, i), 17, 1, 2);
        CHECKS.row("left ahead of down", i -> x.way(0, 2, 0, i), 17, 16, 32);
        CHECKS.row("right ahead of down", i -> x.way(0, 2, 2, i), 17, 18, 34);
        SmokeWatch y = Woods.flat(3, 3);
        y.square(0, 1, 0, 2);
        y.square(2, 1, 0, 2);
        y.crew(0, 0);
        // Three ways of 4 minutes are left, by (1, 1) or round it below; two go by (1, 1).
        CHECKS.row("they part late", i -> y.way(0, 2, 2, i), 0, 16, 17, 18, 34);
        CHECKS.due("least sum", 4, y.minutes(0, 2, 2));
        SmokeWatch z = Woods.flat(3, 3);
        z.square(1, 1, 0, 60);
        z.crew(0, 0);
        CHECKS.row("not by the dear one", i -> z.way(0, 2, 2, i), 0, 1, 2, 18, 34);
        z.move(0, 2, 2);
        CHECKS.row("back, up first", i -> z.way(0, 0, 0, i), 34, 18, 2, 1, 0);
    }

    /** A longer way with a less sum goes ahead of a shorter one; with the same sum numbers count. */
    private static void wayOfAllSteps() {
        SmokeWatch x = Woods.flat(2, 3);
        x.square(0, 1, 0, 3);
        x.crew(0, 0);
        CHECKS.due("same sum", 4, x.minutes(0, 0, 2));
        CHECKS.row("straight on is the lesser number", i -> x.way(0, 0, 2, i), 0, 1, 2);
        SmokeWatch y = Woods.flat(2, 3);
        y.square(0, 1, 0, 4);
        y.crew(0, 0);
        CHECKS.due("less sum", 4, y.minutes(0, 0, 2));
        CHECKS.row("round about", i -> y.way(0, 0, 2, i), 0, 16, 17, 18, 2);
    }

    /** Walls of 3,000 with a gap at one end, by turns: the way goes by every square but the walls. */
    private static void wayLongest() {
        SmokeWatch x = Woods.flat(16, 16);
        for (int r = 1; r < 16; r += 2) {
            for (int c = 0; c < 16; c++) {
                boolean gap = r % 4 == 1 ? c == 15 : c == 0;
                x.square(r, c, gap ? 0 : 3000, 60);
            }
        }
        x.crew(0, 0);
        int steps = 8 * 15 + 15;
        CHECKS.due("minutes of the longest way", 8 * 15 + 7 + 8 * 60, x.minutes(0, 15, 0));
        CHECKS.due("its first", 0, x.way(0, 15, 0, 0));
        CHECKS.due("its first turn", 31, x.way(0, 15, 0, 16));
        CHECKS.due("its last", 240, x.way(0, 15, 0, steps));
        CHECKS.due("behind its last", NONE, x.way(0, 15, 0, steps + 1));
        for (int i : new int[] {255, 256, 257, 1_000_000, MOST, LEAST, -1}) {
            CHECKS.due("far behind its last " + i, NONE, x.way(0, 15, 0, i));
        }
    }

    // Promise 27: "NONE, what was told before stays: no fire BURNS"
    private static void sendNoFireBurns() {
        SmokeWatch x = Woods.fires(2);
        x.crew(0, 0);
        x.crew(2, 0);
        SmokeWatch none = Woods.flat(1, 1);
        none.crew(0, 0);
        CHECKS.due("send without fires", NONE, none.send());
        CHECKS.due("send", 2, x.send());
        x.out(0);
        x.apart(2);
        x.apart(3);
        CHECKS.due("send with one out and one gone", NONE, x.send());
        CHECKS.row("what was told before", f -> x.sent(f), 0, 1);
    }

    // Promise 27: "more BURN than there are crews"
    private static void sendMoreThanCrews() {
        SmokeWatch x = Woods.fires(2);
        CHECKS.due("send without crews", NONE, x.send());
        x.crew(2, 1);
        CHECKS.due("two fires, one crew", NONE, x.send());
        CHECKS.row("nothing was told", f -> x.sent(f));
        x.out(0);
        CHECKS.due("one burns, one crew", 0, x.send());
        CHECKS.due("to the one that burns", 0, x.sent(1));
        CHECKS.due("not to the one that is out", NONE, x.sent(0));
        x.undo();
        CHECKS.due("two burn again", NONE, x.send());
        CHECKS.due("what was told before stays", 0, x.sent(1));
        x.crew(0, 1);
        CHECKS.due("two fires, two crews", 0, x.send());
        CHECKS.row("each its own", f -> x.sent(f), 1, 0);
    }

    private static void sendEightOfEight() {
        SmokeWatch x = Woods.flat(9, 2);
        for (int i = 0; i < 9; i++) {
            x.report(i, 0, 0, 0, 1, 0);
        }
        for (int k = 0; k < 8; k++) {
            x.crew(7 - k, 1);
            x.begin(k);
        }
        CHECKS.due("eight fires, eight crews", 0, x.send());
        CHECKS.row("eight of their own", f -> x.sent(f), 7, 6, 5, 4, 3, 2, 1, 0);
        x.begin(8);
        CHECKS.due("nine fires, eight crews", NONE, x.send());
        CHECKS.due("the ninth", NONE, x.sent(8));
        x.out(0);
        // The sum is 8 wherever no crew goes up: so the crew of the first row may go all the way, and
        // each other fire has the one on its own row, which is the lesser of the two that it can have.
        CHECKS.due("eight of nine burn", 8, x.send());
        int[] behind = {NONE, 6, 5, 4, 3, 2, 1, 0, 7};
        for (int f = 0; f < behind.length; f++) {
            CHECKS.due("eight of nine, fire " + f, behind[f], x.sent(f));
        }
    }

    // Promise 27: "or it can't be done"
    private static void sendCannotBeDone() {
        SmokeWatch x = new SmokeWatch();
        x.row(0, 3, 0, 1);
        x.row(2, 3, 0, 1);
        x.report(0, 0, 0, 0, 1, 0);
        x.report(2, 0, 0, 0, 1, 0);
        x.crew(0, 0);
        x.crew(0, 2);
        x.begin(0);
        CHECKS.due("one fire", 1, x.send());
        x.begin(1);
        CHECKS.due("no crew can come to the second", NONE, x.send());
        CHECKS.row("what was told before", f -> x.sent(f), 0);
        x.crew(2, 2);
        CHECKS.due("one can", 2, x.send());
        CHECKS.row("told now", f -> x.sent(f), 0, 2);
        x.report(2, 2, 0, 0, -1, 0);
        x.begin(2);
        CHECKS.due("two fires there, one crew there", NONE, x.send());
        CHECKS.row("what was told stays", f -> x.sent(f), 0, 2);
    }

    // Term 4: "with the least sum of minutes to the MIDDLES"
    private static void sendLeastSum() {
        SmokeWatch x = Woods.flat(1, 16);
        x.report(0, 3, 0, 0, 1, 0);
        x.report(0, 5, 0, 0, -1, 0);
        x.report(0, 14, 0, 0, 1, 0);
        x.begin(0);
        x.join(1, 0);
        x.begin(2);
        CHECKS.due("the first fire's middle", 4, x.fire(0, 3));
        CHECKS.due("the second fire's middle", 15, x.fire(1, 3));
        x.crew(0, 5);
        x.crew(0, 0);
        // The nearest crew of the first fire is the only good one of the second: 4 + 10, not 1 + 15.
        CHECKS.due("least sum", 14, x.send());
        CHECKS.row("not the nearest one first", f -> x.sent(f), 1, 0);
    }

    // Term 4: "of several the least row of crews (the first fire's the least, then the next one's)"
    private static void sendLeastRow() {
        SmokeWatch x = Woods.flat(3, 3);
        x.report(0, 0, 0, 0, 1, 0);
        x.report(0, 0, 1, 0, 1, 0);
        x.report(0, 0, 2, 0, 1, 0);
        for (int i = 0; i < 3; i++) {
            x.begin(i);
        }
        for (int k = 0; k < 4; k++) {
            x.crew(2, 1);
        }
        CHECKS.due("four alike for three", 6, x.send());
        CHECKS.row("the least row", f -> x.sent(f), 0, 1, 2);
        x.move(0, 2, 2);
        CHECKS.due("the first one is further", 6, x.send());
        CHECKS.row("the least row without it", f -> x.sent(f), 1, 2, 3);
        x.out(1);
        x.move(1, 2, 0);
        CHECKS.due("two burn", 4, x.send());
        CHECKS.due("the first fire's", 2, x.sent(0));
        CHECKS.due("out", NONE, x.sent(1));
        CHECKS.due("the third fire's", 3, x.sent(2));
    }

    // Term 4: "a crew of its own"
    private static void sendEachItsOwn() {
        SmokeWatch x = Woods.flat(1, 2);
        x.report(0, 0, 0, 0, 1, 0);
        x.report(0, 0, 1, 0, 1, 0);
        x.begin(0);
        x.begin(1);
        x.crew(0, 1);
        x.crew(0, 0);
        CHECKS.due("two fires with one middle", 1, x.send());
        CHECKS.row("the one that stands on it goes to the first alone", f -> x.sent(f), 0, 1);
    }

    private static void sendToTheMiddle() {
        SmokeWatch x = Woods.flat(1, 7);
        x.report(0, 0, 0, 0, 1, 0);
        x.begin(0);
        // 1 to 6: 3 and 4 have the same sum of ways.
        x.crew(0, 0);
        CHECKS.due("to the middle of six", 3, x.send());
        x.report(0, 3, 1, 0, 1, 0);
        x.join(1, 0);
        CHECKS.due("to the middle of three", 5, x.send());
    }

    // Promise 28: "NONE: none (also behind a new ROW)"
    private static void sentNoSuch() {
        CHECKS.row("sent of a new object", new SmokeWatch()::sent);
        SmokeWatch x = Woods.fires(2);
        CHECKS.row("sent ahead of all", x::sent);
        x.crew(0, 1);
        x.crew(2, 1);
        x.send();
        CHECKS.row("sent", x::sent, 0, 1);
        for (int f : new int[] {19, 20, 21, 59, 60}) {
            CHECKS.due("sent of " + f, NONE, x.sent(f));
        }
        x.row(9, 17, 0, 1);
        CHECKS.row("sent behind a refused row", x::sent, 0, 1);
        x.row(9, 0, 0, 0);
        CHECKS.row("sent behind a new row", x::sent);
    }

    private static void sentOfTheLastFire() {
        SmokeWatch x = Woods.flat(1, 2);
        for (int i = 0; i < 20; i++) {
            x.report(0, 0, i, 0, 1, 0);
            x.begin(i);
        }
        for (int f = 0; f < 19; f++) {
            x.out(f);
        }
        x.crew(0, 0);
        x.crew(0, 1);
        CHECKS.due("send to the twentieth", 0, x.send());
        CHECKS.due("sent to the twentieth", 1, x.sent(19));
        CHECKS.due("sent to the nineteenth", NONE, x.sent(18));
        CHECKS.due("sent to none behind", NONE, x.sent(20));
    }

    // Promise 28: "The crew that the latest send() with a sum gave to fire f"
    private static void sentOfTheLatest() {
        SmokeWatch x = Woods.fires(2);
        x.crew(0, 1);
        x.crew(2, 1);
        CHECKS.due("first sending", 0, x.send());
        x.move(0, 2, 1);
        x.move(1, 0, 1);
        CHECKS.row("crews moved: told as before", x::sent, 0, 1);
        CHECKS.due("second sending", 0, x.send());
        CHECKS.row("told anew", x::sent, 1, 0);
        x.out(0);
        CHECKS.row("out: told as before", x::sent, 1, 0);
        CHECKS.due("third sending", 0, x.send());
        CHECKS.due("third sending has one fire", 0, x.sent(1));
        CHECKS.due("and not the other", NONE, x.sent(0));
        CHECKS.due("sending is no act", true, x.undo() && x.fire(0, 0) == 0);
        CHECKS.due("undoing leaves what was told", NONE, x.sent(0));
    }
}
