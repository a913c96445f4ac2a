import java.util.Arrays;

/**
 * A watch over a wood: towers see smokes by directions, sightings are joined into fires, and crews
 * are sent to them. Every row that a call needs is made once and used again, so that long runs of
 * calls make next to nothing new.
 */
public final class SmokeWatch {
    public static final int NONE = -1;

    private static final int WIDTH = 16;
    private static final int AREA = WIDTH * WIDTH;
    private static final int MOST_TOWERS = 8;
    private static final int MOST_PLACES = 60;
    private static final int MOST_FIRES = 20;
    private static final int MOST_CREWS = 8;
    private static final int MOST_ACTS = 50;
    private static final int MOST_GROUPED = 10;

    private static final int SHORT = 1;
    private static final int FAINT = 2;
    private static final int GLOW = 3;
    private static final int REPORT = 4;
    private static final int REMARK = 5;
    private static final int NOTHING = 6;

    private static final int BURNS = 0;
    private static final int OUT = 1;
    private static final int GONE = 2;

    private static final int ACT_MADE = 0;
    private static final int ACT_CLEARED = 1;
    private static final int ACT_JOINED = 2;
    private static final int ACT_BEGUN = 3;
    private static final int ACT_APART = 4;
    private static final int ACT_OUT = 5;
    private static final int ACT_CREW = 6;
    private static final int ACT_MOVED = 7;

    private static final int CALLER_HEIGHT = 2;
    private static final int NEW_TOWER_HEIGHT = 10;
    private static final int NEXT_SIDE = 41;
    private static final int[] NEXT_DOWN = {-1, -1, 0, 1, 1, 1, 0, -1};
    private static final int[] NEXT_RIGHT = {0, 1, 1, 1, 0, -1, -1, -1};

    private static final int FLOAT_ONE = 0x3F800000;
    private static final int FLOAT_MINUS_ZERO = 0x80000000;

    // Far above every sum of minutes, and two of it still fit into an int.
    private static final int FAR = 1_000_000_000;

    private final Wood wood = new Wood();
    private final Towers towers = new Towers(wood);
    private final Diary diary = new Diary();
    private final Fires fires = new Fires(diary);
    private final int[] crewSquares = new int[MOST_CREWS];
    private int crewCount = 0;
    private final Acts acts = new Acts();
    private final Ways ways = new Ways(wood);
    private final Sending sending = new Sending();
    private final int[] sentCrews = new int[MOST_FIRES];
    private final Grouping grouping = new Grouping();
    private final int[] claims = new int[MOST_PLACES];
    private final SquareSet common = new SquareSet();

    public SmokeWatch() {
        Arrays.fill(sentCrews, NONE);
        Arrays.fill(claims, NONE);
    }

    // ---- the wood and its towers

    public boolean row(int r, int n, int height, int minutes) {
        if (r < 0 || r >= WIDTH || n < 0 || n > WIDTH) {
            return false;
        }
        if (n > 0 && !isGround(height, minutes)) {
            return false;
        }
        wood.setRow(r, n, height, minutes);
        takeAllAway();
        return true;
    }

    public boolean square(int r, int c, int height, int minutes) {
        if (!wood.has(r, c) || !isGround(height, minutes)) {
            return false;
        }
        if (diary.used > 0 || fires.size > 0 || crewCount > 0) {
            return false;
        }
        wood.setSquare(WIDTH * r + c, height, minutes);
        towers.forgetUnseen();
        return true;
    }

    public int tower(int r, int c, int height) {
        if (!wood.has(r, c) || height < 0 || height > 100 || diary.used > 0) {
            return NONE;
        }
        return towers.add(WIDTH * r + c, height);
    }

    public int see(int t, int r, int c) {
        if (!towers.has(t) || !wood.has(r, c)) {
            return NONE;
        }
        return towers.firstHiding(t, WIDTH * r + c) == NONE ? 1 : 0;
    }

    public int hidden(int t, int r, int c) {
        if (!towers.has(t) || !wood.has(r, c)) {
            return NONE;
        }
        return towers.firstHiding(t, WIDTH * r + c);
    }

    // ---- the log

    public int sight(int kind, int t, int minute, int down, int right, int side, int reach, int haze) {
        if (kind < 0 || kind > GLOW || !towers.has(t) || !isAim(minute, down, right, side)) {
            return NONE;
        }
        boolean reaches = kind == SHORT || kind == FAINT;
        if (reaches && (reach < 1 || reach > 40) || kind == FAINT && !isHaze(haze)) {
            return NONE;
        }
        if (diary.used >= MOST_PLACES) {
            return NONE;
        }
        int left = reaches ? reach : NONE;
        if (kind == FAINT) {
            left = reach - reach * hazePercent(haze) / 100;
        }
        Entry entry = new Entry(kind, minute, t, left);
        fillSquares(entry, towers.eyeSquare(t), towers.eyeHeight(t), down, right, side);
        return keep(entry);
    }

    public int report(int r, int c, int minute, int down, int right, int side) {
        if (!wood.has(r, c) || !isAim(minute, down, right, side) || diary.used >= MOST_PLACES) {
            return NONE;
        }
        int eye = WIDTH * r + c;
        Entry entry = new Entry(REPORT, minute, NONE, NONE);
        fillSquares(entry, eye, wood.heightOf(eye) + CALLER_HEIGHT, down, right, side);
        return keep(entry);
    }

    public int remark(int v) {
        if (diary.used >= MOST_PLACES) {
            return NONE;
        }
        return keep(new Entry(REMARK, v, NONE, NONE));
    }

    public boolean clear(int i) {
        Entry entry = diary.entryAt(i);
        if (entry == null || entry.fire != NONE) {
            return false;
        }
        diary.put(i, null);
        acts.add(ACT_CLEARED, i, NONE, entry);
        return true;
    }

    public int log(int i, int what) {
        if (i < 0 || i >= MOST_PLACES) {
            return NONE;
        }
        Entry entry = diary.entryAt(i);
        if (entry == null) {
            return what == 0 ? NOTHING : NONE;
        }
        if (entry.kind == REMARK && what > 1) {
            return NONE;
        }
        switch (what) {
            case 0:
                return entry.kind;
            case 1:
                return entry.number;
            case 2:
                return entry.tower;
            case 3:
                return entry.squares.size();
            case 4:
                return entry.fire;
            case 5:
                return entry.reach;
            case 6:
                return fires.fitting(entry);
            default:
                return NONE;
        }
    }

    public int squares(int i, int k) {
        Entry entry = diary.sightingAt(i);
        return entry == null ? NONE : entry.squares.nth(k);
    }

    // ---- fires

    public boolean join(int i, int f) {
        Entry entry = diary.sightingAt(i);
        if (entry == null || !fires.fits(entry, f)) {
            return false;
        }
        fires.attach(entry, f);
        acts.add(ACT_JOINED, i, NONE, null);
        return true;
    }

    public int begin(int i) {
        Entry entry = diary.sightingAt(i);
        if (entry == null || entry.fire != NONE || entry.squares.isEmpty() || fires.size >= MOST_FIRES) {
            return NONE;
        }
        int f = fires.kindle(entry);
        acts.add(ACT_BEGUN, i, NONE, null);
        return f;
    }

    public boolean apart(int i) {
        Entry entry = diary.sightingAt(i);
        if (entry == null || fires.stateOf(entry.fire) != BURNS) {
            return false;
        }
        int former = entry.fire;
        fires.detach(entry);
        acts.add(ACT_APART, i, former, null);
        return true;
    }

    public int office() {
        int joined = 0;
        for (int turn = 0; turn < MOST_PLACES; turn++) {
            if (!joinFirstSure()) {
                return joined;
            }
            joined++;
        }
        return joined;
    }

    public boolean out(int f) {
        if (fires.stateOf(f) != BURNS) {
            return false;
        }
        fires.setOut(f, true);
        acts.add(ACT_OUT, f, NONE, null);
        return true;
    }

    public int fire(int f, int what) {
        Fire fire = fires.fireAt(f);
        if (fire == null) {
            return NONE;
        }
        switch (what) {
            case 0:
                return fires.stateOf(f);
            case 1:
                return fire.joined;
            case 2:
                return fire.patch.size();
            case 3:
                return fires.middleOf(f);
            case 4:
                return fire.again;
            default:
                return NONE;
        }
    }

    public int patch(int f, int k) {
        Fire fire = fires.fireAt(f);
        return fire == null ? NONE : fire.patch.nth(k);
    }

    public int fewest(int from, int to) {
        grouping.start();
        for (int i = 0; i < MOST_PLACES; i++) {
            Entry entry = diary.sightingAt(i);
            if (entry != null && entry.number >= from && entry.number <= to) {
                if (entry.squares.isEmpty() || !grouping.add(entry)) {
                    return NONE;
                }
            }
        }
        return grouping.fewestGroups();
    }

    public int next(int f) {
        Fire fire = fires.fireAt(f);
        if (fire == null || fires.stateOf(f) != BURNS) {
            return NONE;
        }
        return towers.halvingBearing(fire.patch);
    }

    // ---- crews

    public int crew(int r, int c) {
        if (!wood.has(r, c) || crewCount >= MOST_CREWS) {
            return NONE;
        }
        crewSquares[crewCount] = WIDTH * r + c;
        crewCount++;
        acts.add(ACT_CREW, crewCount - 1, NONE, null);
        return crewCount - 1;
    }

    public boolean move(int k, int r, int c) {
        if (leastMinutes(k, r, c) == NONE) {
            return false;
        }
        acts.add(ACT_MOVED, k, crewSquares[k], null);
        crewSquares[k] = WIDTH * r + c;
        return true;
    }

    public int place(int k) {
        return hasCrew(k) ? crewSquares[k] : NONE;
    }

    public int minutes(int k, int r, int c) {
        return leastMinutes(k, r, c);
    }

    public int way(int k, int r, int c, int i) {
        if (i < 0 || i >= AREA || leastMinutes(k, r, c) == NONE) {
            return NONE;
        }
        int at = crewSquares[k];
        for (int step = 0; step < i && at != NONE; step++) {
            at = ways.stepFrom(at);
        }
        return at;
    }

    public int send() {
        int burning = fires.burning();
        if (burning == 0 || burning > crewCount) {
            return NONE;
        }
        sending.start(crewCount);
        for (int f = 0; f < fires.size; f++) {
            if (fires.stateOf(f) == BURNS) {
                addToSending(f);
            }
        }
        int sum = sending.leastSum();
        if (sum >= FAR) {
            return NONE;
        }
        Arrays.fill(sentCrews, NONE);
        sending.tellCrews(sentCrews);
        return sum;
    }

    public int sent(int f) {
        return f < 0 || f >= MOST_FIRES ? NONE : sentCrews[f];
    }

    // ---- what no tower sees

    public int blinds() {
        return towers.unseenSquares().size();
    }

    public int blind(int k) {
        return towers.unseenSquares().nth(k);
    }

    public int best() {
        return towers.bestNewSquare();
    }

    // ---- claims, undoing, counting

    public boolean claim(int i, int f) {
        if (i < 0 || i >= MOST_PLACES || f < NONE || f >= MOST_PLACES) {
            return false;
        }
        claims[i] = f;
        return true;
    }

    public int check() {
        for (int i = 0; i < MOST_PLACES; i++) {
            if (claims[i] != NONE && !isClaimRight(i)) {
                return i;
            }
        }
        return NONE;
    }

    public boolean undo() {
        if (!acts.takeNewest()) {
            return false;
        }
        undoAct(acts.takenKind(), acts.takenSubject(), acts.takenFormer(), acts.takenEntry());
        return true;
    }

    public int count(int what) {
        switch (what) {
            case 0:
                return towers.size;
            case 1:
                return diary.used;
            case 2:
                return fires.size;
            case 3:
                return crewCount;
            case 4:
                return acts.size;
            case 5:
                return wood.there;
            default:
                return NONE;
        }
    }

    // ---- helpers of the calls

    private static boolean isGround(int height, int minutes) {
        return height >= -1000 && height <= 3000 && minutes >= 1 && minutes <= 60;
    }

    private static boolean isAim(int minute, int down, int right, int side) {
        return minute >= 0 && minute <= 9999
            && down >= -50 && down <= 50 && right >= -50 && right <= 50
            && (down != 0 || right != 0)
            && side >= 0 && side <= 400;
    }

    // The bits of floats from 0 up stand in the order of the floats; what is no number lies above.
    private static boolean isHaze(int bits) {
        return bits >= 0 && bits <= FLOAT_ONE || bits == FLOAT_MINUS_ZERO;
    }

    // The float is built from its bits by halving, which is exact, so that the product is a float's.
    private static int hazePercent(int bits) {
        int exponent = bits >> 23 & 0xFF;
        if (exponent < 100) {
            return 0;
        }
        float haze = (float) (bits & 0x7FFFFF | 0x800000);
        for (int e = exponent; e < 150; e++) {
            haze = haze * 0.5f;
        }
        return (int) (haze * 100f);
    }

    private static boolean isAimedAt(int eye, int square, int down, int right, int side) {
        int wayDown = square / WIDTH - eye / WIDTH;
        int wayRight = square % WIDTH - eye % WIDTH;
        int along = wayDown * down + wayRight * right;
        int aside = Math.abs(wayDown * right - wayRight * down);
        return along > 0 && 100 * aside <= side * along;
    }

    private static boolean isWithin(int eye, int square, int reach) {
        int wayDown = square / WIDTH - eye / WIDTH;
        int wayRight = square % WIDTH - eye % WIDTH;
        return wayDown * wayDown + wayRight * wayRight <= reach * reach;
    }

    private void fillSquares(Entry entry, int eye, int eyeHeight, int down, int right, int side) {
        boolean glows = entry.kind == GLOW || entry.kind == REPORT;
        for (int n = 0; n < AREA; n++) {
            if (wood.hasNumber(n) && isAimedAt(eye, n, down, right, side)
                && (entry.reach == NONE || isWithin(eye, n, entry.reach))
                && (glows || wood.firstHiding(eye, eyeHeight, n) == NONE)) {
                entry.squares.add(n);
            }
        }
    }

    private int keep(Entry entry) {
        int i = diary.firstFree();
        if (i != NONE) {
            diary.put(i, entry);
            acts.add(ACT_MADE, i, NONE, null);
        }
        return i;
    }

    private boolean joinFirstSure() {
        for (int i = 0; i < MOST_PLACES; i++) {
            Entry entry = diary.sightingAt(i);
            if (entry != null) {
                int f = fires.onlyFit(entry);
                if (f != NONE) {
                    fires.attach(entry, f);
                    acts.add(ACT_JOINED, i, NONE, null);
                    return true;
                }
            }
        }
        return false;
    }

    private boolean hasCrew(int k) {
        return k >= 0 && k < crewCount;
    }

    private int leastMinutes(int k, int r, int c) {
        if (!hasCrew(k) || !wood.has(r, c)) {
            return NONE;
        }
        ways.measureTo(WIDTH * r + c);
        int least = ways.minutesFrom(crewSquares[k]);
        return least >= FAR ? NONE : least;
    }

    private void addToSending(int f) {
        ways.measureTo(fires.middleOf(f));
        sending.addFire(f);
        for (int k = 0; k < crewCount; k++) {
            sending.setCost(k, ways.minutesFrom(crewSquares[k]));
        }
    }

    private boolean isClaimRight(int i) {
        Entry entry = diary.sightingAt(i);
        if (entry == null) {
            return true;
        }
        common.copy(entry.squares);
        for (int j = 0; j < i; j++) {
            Entry ahead = diary.sightingAt(j);
            if (ahead != null && claims[j] == claims[i]) {
                if (entry.clashes(ahead)) {
                    return false;
                }
                common.keepOnly(ahead.squares);
            }
        }
        return !common.isEmpty();
    }

    private void undoAct(int kind, int subject, int former, Entry kept) {
        Entry entry = diary.entryAt(subject);
        switch (kind) {
            case ACT_MADE:
                diary.put(subject, null);
                break;
            case ACT_CLEARED:
                diary.put(subject, kept);
                break;
            case ACT_JOINED:
                fires.detach(entry);
                break;
            case ACT_BEGUN:
                fires.detach(entry);
                fires.dropLast();
                break;
            case ACT_APART:
                fires.attach(entry, former);
                break;
            case ACT_OUT:
                fires.setOut(subject, false);
                break;
            case ACT_CREW:
                crewCount = subject;
                break;
            case ACT_MOVED:
                if (hasCrew(subject)) {
                    crewSquares[subject] = former;
                }
                break;
            default:
                break;
        }
    }

    private void takeAllAway() {
        towers.dropAll();
        diary.dropAll();
        fires.size = 0;
        crewCount = 0;
        acts.dropAll();
        Arrays.fill(sentCrews, NONE);
        Arrays.fill(claims, NONE);
    }

    /** Squares of the wood by their numbers, a bit each. */
    private static final class SquareSet {
        private static final int WORDS = 4;
        private static final int BITS = 64;
        private final long[] words = new long[WORDS];

        void empty() {
            Arrays.fill(words, 0L);
        }

        void copy(SquareSet other) {
            System.arraycopy(other.words, 0, words, 0, WORDS);
        }

        void add(int n) {
            if (n >= 0 && n < AREA) {
                words[n / BITS] |= 1L << n % BITS;
            }
        }

        boolean contains(int n) {
            return n >= 0 && n < AREA && (words[n / BITS] >>> n % BITS & 1L) != 0L;
        }

        void keepOnly(SquareSet other) {
            for (int w = 0; w < WORDS; w++) {
                words[w] &= other.words[w];
            }
        }

        boolean meets(SquareSet other) {
            for (int w = 0; w < WORDS; w++) {
                if ((words[w] & other.words[w]) != 0L) {
                    return true;
                }
            }
            return false;
        }

        boolean isEmpty() {
            for (int w = 0; w < WORDS; w++) {
                if (words[w] != 0L) {
                    return false;
                }
            }
            return true;
        }

        int size() {
            int size = 0;
            for (int w = 0; w < WORDS; w++) {
                size += Long.bitCount(words[w]);
            }
            return size;
        }

        int nth(int k) {
            if (k < 0 || k >= AREA) {
                return NONE;
            }
            int ahead = k;
            for (int n = 0; n < AREA; n++) {
                if (contains(n)) {
                    if (ahead == 0) {
                        return n;
                    }
                    ahead--;
                }
            }
            return NONE;
        }
    }

    /** The ground: which squares are there, their heights and minutes, and what a line meets. */
    private static final class Wood {
        private static final int NEVER = FAR;
        private final int[] lengths = new int[WIDTH];
        private final int[] heights = new int[AREA];
        private final int[] stepMinutes = new int[AREA];
        private int there = 0;

        void setRow(int r, int n, int height, int minutes) {
            there += n - lengths[r];
            lengths[r] = n;
            for (int c = 0; c < n; c++) {
                setSquare(WIDTH * r + c, height, minutes);
            }
        }

        void setSquare(int n, int height, int minutes) {
            heights[n] = height;
            stepMinutes[n] = minutes;
        }

        boolean has(int r, int c) {
            return r >= 0 && r < WIDTH && c >= 0 && c < lengths[r];
        }

        boolean hasNumber(int n) {
            return n >= 0 && n < AREA && n % WIDTH < lengths[n / WIDTH];
        }

        int heightOf(int n) {
            return n >= 0 && n < AREA ? heights[n] : 0;
        }

        int stepCost(int from, int to) {
            if (!hasNumber(from) || !hasNumber(to)) {
                return FAR;
            }
            return stepMinutes[to] + Math.max(0, heights[to] - heights[from]) / 10;
        }

        /**
         * Walks the line from an eye to a square and answers the first square between that is
         * missing or hides. The line is cut into so many equal parts that every crossing of an edge
         * between squares is a whole number of them: no fraction is ever rounded. Where both
         * crossings fall together the line goes through a corner, and not inside the squares beside.
         */
        int firstHiding(int from, int eyeHeight, int to) {
            if (!hasNumber(from) || !hasNumber(to)) {
                return NONE;
            }
            int rows = Math.abs(to / WIDTH - from / WIDTH);
            int columns = Math.abs(to % WIDTH - from % WIDTH);
            int rowStep = to / WIDTH > from / WIDTH ? WIDTH : -WIDTH;
            int columnStep = to % WIDTH > from % WIDTH ? 1 : -1;
            int rowPart = Math.max(columns, 1);
            int columnPart = Math.max(rows, 1);
            int parts = 2 * rowPart * columnPart;
            int start = eyeHeight * parts;
            int rise = heights[to] - eyeHeight;
            int nextRow = rows == 0 ? NEVER : rowPart;
            int nextColumn = columns == 0 ? NEVER : columnPart;
            int at = from;
            for (int step = 0; step < rows + columns; step++) {
                int in = Math.min(nextRow, nextColumn);
                if (nextRow == in) {
                    at += rowStep;
                    nextRow += 2 * rowPart;
                }
                if (nextColumn == in) {
                    at += columnStep;
                    nextColumn += 2 * columnPart;
                }
                if (at == to) {
                    return NONE;
                }
                int out = Math.min(nextRow, nextColumn);
                int lower = start + Math.min(rise * in, rise * out);
                if (!hasNumber(at) || heights[at] * parts >= lower) {
                    return at;
                }
            }
            return NONE;
        }
    }

    /** The towers, and what follows from where they stand alone. */
    private static final class Towers {
        private final Wood wood;
        private final int[] places = new int[MOST_TOWERS];
        private final int[] heights = new int[MOST_TOWERS];
        private int size = 0;
        private final SquareSet seen = new SquareSet();
        // These two are dear to find and change with the ground and the towers alone.
        private final SquareSet unseen = new SquareSet();
        private boolean unseenKnown = false;
        private int bestSquare = NONE;
        private boolean bestKnown = false;

        Towers(Wood wood) {
            this.wood = wood;
        }

        void dropAll() {
            size = 0;
            forgetUnseen();
        }

        void forgetUnseen() {
            unseenKnown = false;
            bestKnown = false;
        }

        int add(int square, int height) {
            if (size >= MOST_TOWERS) {
                return NONE;
            }
            places[size] = square;
            heights[size] = height;
            size++;
            forgetUnseen();
            return size - 1;
        }

        boolean has(int t) {
            return t >= 0 && t < size;
        }

        int eyeSquare(int t) {
            return has(t) ? places[t] : NONE;
        }

        int eyeHeight(int t) {
            return has(t) ? wood.heightOf(places[t]) + heights[t] : 0;
        }

        int firstHiding(int t, int square) {
            return wood.firstHiding(eyeSquare(t), eyeHeight(t), square);
        }

        SquareSet unseenSquares() {
            if (!unseenKnown) {
                unseen.empty();
                for (int n = 0; n < AREA; n++) {
                    if (wood.hasNumber(n) && !isSeen(n)) {
                        unseen.add(n);
                    }
                }
                unseenKnown = true;
            }
            return unseen;
        }

        private boolean isSeen(int square) {
            for (int t = 0; t < size; t++) {
                if (firstHiding(t, square) == NONE) {
                    return true;
                }
            }
            return false;
        }

        int bestNewSquare() {
            if (!bestKnown) {
                findBestSquare(unseenSquares().size());
                bestKnown = true;
            }
            return bestSquare;
        }

        private void findBestSquare(int all) {
            int most = 0;
            bestSquare = NONE;
            for (int n = 0; n < AREA && most < all; n++) {
                if (wood.hasNumber(n)) {
                    int sees = unseenSeenFrom(n, all, most);
                    if (sees > most) {
                        most = sees;
                        bestSquare = n;
                    }
                }
            }
        }

        // Gives up as soon as what is left can't beat the most so far: this is the dearest loop.
        private int unseenSeenFrom(int square, int all, int most) {
            int eyeHeight = wood.heightOf(square) + NEW_TOWER_HEIGHT;
            int left = all;
            int sees = 0;
            for (int n = 0; n < AREA && sees + left > most; n++) {
                if (unseen.contains(n)) {
                    left--;
                    if (wood.firstHiding(square, eyeHeight, n) == NONE) {
                        sees++;
                    }
                }
            }
            return sees;
        }

        int halvingBearing(SquareSet patch) {
            int all = patch.size();
            int least = FAR;
            int found = NONE;
            for (int t = 0; t < size; t++) {
                findSeen(t, patch);
                for (int d = 0; d < NEXT_DOWN.length; d++) {
                    int with = seenTowards(places[t], NEXT_DOWN[d], NEXT_RIGHT[d]);
                    int greater = Math.max(with, all - with);
                    if (greater < least) {
                        least = greater;
                        found = NEXT_DOWN.length * t + d;
                    }
                }
            }
            return found;
        }

        private void findSeen(int t, SquareSet patch) {
            seen.empty();
            for (int n = 0; n < AREA; n++) {
                if (patch.contains(n) && firstHiding(t, n) == NONE) {
                    seen.add(n);
                }
            }
        }

        private int seenTowards(int eye, int down, int right) {
            int size = 0;
            for (int n = 0; n < AREA; n++) {
                if (seen.contains(n) && isAimedAt(eye, n, down, right, NEXT_SIDE)) {
                    size++;
                }
            }
            return size;
        }
    }

    /**
     * What a place of the log has. A sighting keeps the squares that it had when it was made, so
     * that undoing brings it back as it was, whatever the ground has become meanwhile.
     */
    private static final class Entry {
        private final int kind;
        private final int number;
        private final int tower;
        private final int reach;
        private final SquareSet squares = new SquareSet();
        private int fire = NONE;

        Entry(int kind, int number, int tower, int reach) {
            this.kind = kind;
            this.number = number;
            this.tower = tower;
            this.reach = reach;
        }

        boolean clashes(Entry other) {
            return tower != NONE && tower == other.tower && number == other.number;
        }
    }

    /** The log: a place without an entry has nothing. */
    private static final class Diary {
        private final Entry[] entries = new Entry[MOST_PLACES];
        private int used = 0;

        void dropAll() {
            for (int i = 0; i < MOST_PLACES; i++) {
                entries[i] = null;
            }
            used = 0;
        }

        Entry entryAt(int i) {
            return i < 0 || i >= MOST_PLACES ? null : entries[i];
        }

        Entry sightingAt(int i) {
            Entry entry = entryAt(i);
            return entry == null || entry.kind == REMARK ? null : entry;
        }

        int firstFree() {
            for (int i = 0; i < MOST_PLACES; i++) {
                if (entries[i] == null) {
                    return i;
                }
            }
            return NONE;
        }

        void put(int i, Entry entry) {
            if (i < 0 || i >= MOST_PLACES) {
                return;
            }
            used += (entry == null ? 0 : 1) - (entries[i] == null ? 0 : 1);
            entries[i] = entry;
        }
    }

    /** A fire; its patch is empty when no sighting is joined to it. */
    private static final class Fire {
        private final SquareSet patch = new SquareSet();
        private int joined = 0;
        private int again = NONE;
        private boolean isOut = false;
    }

    /** All fires ever. */
    private static final class Fires {
        private final Diary diary;
        private final Fire[] list = new Fire[MOST_FIRES];
        private int size = 0;
        private final int[] inRows = new int[WIDTH];
        private final int[] inColumns = new int[WIDTH];

        Fires(Diary diary) {
            this.diary = diary;
            for (int f = 0; f < MOST_FIRES; f++) {
                list[f] = new Fire();
            }
        }

        Fire fireAt(int f) {
            return f < 0 || f >= size ? null : list[f];
        }

        int stateOf(int f) {
            Fire fire = fireAt(f);
            if (fire == null) {
                return NONE;
            }
            if (fire.isOut) {
                return OUT;
            }
            return fire.joined > 0 ? BURNS : GONE;
        }

        int burning() {
            int burning = 0;
            for (int f = 0; f < size; f++) {
                if (stateOf(f) == BURNS) {
                    burning++;
                }
            }
            return burning;
        }

        boolean fits(Entry entry, int f) {
            Fire fire = fireAt(f);
            return fire != null && stateOf(f) == BURNS && entry.fire == NONE
                && fire.patch.meets(entry.squares) && !hasClash(entry, f);
        }

        private boolean hasClash(Entry entry, int f) {
            for (int i = 0; i < MOST_PLACES; i++) {
                Entry other = diary.sightingAt(i);
                if (other != null && other.fire == f && entry.clashes(other)) {
                    return true;
                }
            }
            return false;
        }

        int fitting(Entry entry) {
            int fitting = 0;
            for (int f = 0; f < size; f++) {
                if (fits(entry, f)) {
                    fitting++;
                }
            }
            return fitting;
        }

        int onlyFit(Entry entry) {
            int found = NONE;
            for (int f = 0; f < size; f++) {
                if (fits(entry, f)) {
                    if (found != NONE) {
                        return NONE;
                    }
                    found = f;
                }
            }
            return found;
        }

        int kindle(Entry entry) {
            if (size >= MOST_FIRES) {
                return NONE;
            }
            int f = size;
            list[f].again = latestOutMeeting(entry.squares);
            list[f].isOut = false;
            size++;
            attach(entry, f);
            return f;
        }

        private int latestOutMeeting(SquareSet squares) {
            for (int f = size - 1; f >= 0; f--) {
                if (list[f].isOut && list[f].patch.meets(squares)) {
                    return f;
                }
            }
            return NONE;
        }

        void dropLast() {
            if (size > 0) {
                size--;
            }
        }

        void setOut(int f, boolean isOut) {
            Fire fire = fireAt(f);
            if (fire != null) {
                fire.isOut = isOut;
            }
        }

        void attach(Entry entry, int f) {
            if (entry != null) {
                entry.fire = f;
                refresh(f);
            }
        }

        void detach(Entry entry) {
            if (entry != null) {
                int former = entry.fire;
                entry.fire = NONE;
                refresh(former);
            }
        }

        private void refresh(int f) {
            Fire fire = fireAt(f);
            if (fire == null) {
                return;
            }
            fire.joined = 0;
            fire.patch.empty();
            for (int i = 0; i < MOST_PLACES; i++) {
                Entry entry = diary.sightingAt(i);
                if (entry != null && entry.fire == f) {
                    if (fire.joined == 0) {
                        fire.patch.copy(entry.squares);
                    } else {
                        fire.patch.keepOnly(entry.squares);
                    }
                    fire.joined++;
                }
            }
        }

        int middleOf(int f) {
            Fire fire = fireAt(f);
            if (fire == null) {
                return NONE;
            }
            countLines(fire.patch);
            int least = FAR;
            int found = NONE;
            for (int n = 0; n < AREA; n++) {
                if (fire.patch.contains(n)) {
                    int sum = sumOfWays(inRows, n / WIDTH) + sumOfWays(inColumns, n % WIDTH);
                    if (sum < least) {
                        least = sum;
                        found = n;
                    }
                }
            }
            return found;
        }

        private void countLines(SquareSet patch) {
            Arrays.fill(inRows, 0);
            Arrays.fill(inColumns, 0);
            for (int n = 0; n < AREA; n++) {
                if (patch.contains(n)) {
                    inRows[n / WIDTH]++;
                    inColumns[n % WIDTH]++;
                }
            }
        }

        private static int sumOfWays(int[] inLines, int line) {
            int sum = 0;
            for (int other = 0; other < WIDTH; other++) {
                sum += inLines[other] * Math.abs(other - line);
            }
            return sum;
        }
    }

    /** The latest acts, in a ring, so that the oldest one falls out by itself. */
    private static final class Acts {
        private final int[] kinds = new int[MOST_ACTS];
        private final int[] subjects = new int[MOST_ACTS];
        private final int[] formers = new int[MOST_ACTS];
        private final Entry[] entries = new Entry[MOST_ACTS];
        private int end = 0;
        private int size = 0;

        void dropAll() {
            size = 0;
        }

        void add(int kind, int subject, int former, Entry entry) {
            kinds[end] = kind;
            subjects[end] = subject;
            formers[end] = former;
            entries[end] = entry;
            end = end + 1 < MOST_ACTS ? end + 1 : 0;
            size = Math.min(size + 1, MOST_ACTS);
        }

        boolean takeNewest() {
            if (size == 0) {
                return false;
            }
            end = end > 0 ? end - 1 : MOST_ACTS - 1;
            size--;
            return true;
        }

        int takenKind() {
            return kinds[end];
        }

        int takenSubject() {
            return subjects[end];
        }

        int takenFormer() {
            return formers[end];
        }

        Entry takenEntry() {
            return entries[end];
        }
    }

    /**
     * The least minutes from all squares to one. They are measured from the end, because then the
     * way can be walked from its start, always to the least number that loses nothing.
     */
    private static final class Ways {
        private static final int[] BESIDE = {-16, -1, 1, 16};
        private static final int HEAP_ROOM = 4 * AREA + 2;
        private final Wood wood;
        private final int[] least = new int[AREA];
        // A binary heap from 1 on; an element is minutes * AREA + square.
        private final int[] heap = new int[HEAP_ROOM];
        private int heapSize = 0;

        Ways(Wood wood) {
            this.wood = wood;
        }

        int minutesFrom(int square) {
            return square < 0 || square >= AREA ? FAR : least[square];
        }

        void measureTo(int target) {
            Arrays.fill(least, FAR);
            heapSize = 0;
            if (!wood.hasNumber(target)) {
                return;
            }
            least[target] = 0;
            push(target);
            // A square comes into the heap only over one of its four edges, when that makes it nearer.
            for (int turn = 0; turn < HEAP_ROOM && heapSize > 0; turn++) {
                int top = pop();
                int square = top % AREA;
                if (top / AREA == least[square]) {
                    reachBack(square);
                }
            }
        }

        private void reachBack(int to) {
            for (int b = 0; b < BESIDE.length; b++) {
                int from = beside(to, b);
                if (from != NONE) {
                    int sum = least[to] + wood.stepCost(from, to);
                    if (sum < least[from]) {
                        least[from] = sum;
                        push(sum * AREA + from);
                    }
                }
            }
        }

        private int beside(int square, int b) {
            int column = square % WIDTH;
            if (b == 1 && column == 0 || b == 2 && column == WIDTH - 1) {
                return NONE;
            }
            int other = square + BESIDE[b];
            return wood.hasNumber(other) ? other : NONE;
        }

        // BESIDE rises, so the first fitting square is the one with the least number.
        int stepFrom(int square) {
            if (minutesFrom(square) >= FAR) {
                return NONE;
            }
            for (int b = 0; b < BESIDE.length; b++) {
                int other = beside(square, b);
                if (other != NONE && least[square] == least[other] + wood.stepCost(square, other)) {
                    return other;
                }
            }
            return NONE;
        }

        private void push(int element) {
            if (heapSize + 1 >= HEAP_ROOM) {
                return;
            }
            heapSize++;
            int at = heapSize;
            for (; at > 1 && heap[at / 2] > element; at /= 2) {
                heap[at] = heap[at / 2];
            }
            heap[at] = element;
        }

        private int pop() {
            int top = heap[1];
            int last = heap[heapSize];
            heapSize--;
            int at = 1;
            for (int child = 2; child <= heapSize; child = 2 * at) {
                if (child < heapSize && heap[child + 1] < heap[child]) {
                    child++;
                }
                if (heap[child] >= last) {
                    break;
                }
                heap[at] = heap[child];
                at = child;
            }
            heap[at] = last;
            return top;
        }
    }

    /** Gives each fire a crew of its own with the least sum of minutes. */
    private static final class Sending {
        private final int[] firesToServe = new int[MOST_CREWS];
        private final int[] costs = new int[MOST_CREWS * MOST_CREWS];
        // By the set of crews that the first fires have taken: the least sum of the fires left.
        private final int[] leastLeft = new int[1 << MOST_CREWS];
        private int size = 0;
        private int crews = 0;

        void start(int crewCount) {
            size = 0;
            crews = Math.max(0, Math.min(crewCount, MOST_CREWS));
        }

        void addFire(int f) {
            if (size < MOST_CREWS) {
                firesToServe[size] = f;
                size++;
            }
        }

        void setCost(int crew, int minutes) {
            if (size > 0 && crew >= 0 && crew < MOST_CREWS) {
                costs[(size - 1) * MOST_CREWS + crew] = minutes;
            }
        }

        int leastSum() {
            for (int taken = (1 << crews) - 1; taken >= 0; taken--) {
                leastLeft[taken] = leastSumBehind(taken);
            }
            return leastLeft[0];
        }

        private int leastSumBehind(int taken) {
            int turn = Integer.bitCount(taken);
            if (turn >= size) {
                return 0;
            }
            int least = FAR;
            for (int k = 0; k < crews; k++) {
                if ((taken >> k & 1) == 0) {
                    least = Math.min(least, sumWith(turn, taken, k));
                }
            }
            return least;
        }

        private int sumWith(int turn, int taken, int k) {
            return costs[turn * MOST_CREWS + k] + leastLeft[taken | 1 << k];
        }

        // The least crew that keeps the least sum, fire by fire, gives the least row of crews.
        void tellCrews(int[] crewOfFire) {
            int taken = 0;
            for (int turn = 0; turn < size; turn++) {
                int k = leastCrew(turn, taken);
                int f = firesToServe[turn];
                if (k == NONE || f < 0 || f >= crewOfFire.length) {
                    return;
                }
                crewOfFire[f] = k;
                taken |= 1 << k;
            }
        }

        private int leastCrew(int turn, int taken) {
            for (int k = 0; k < crews; k++) {
                if ((taken >> k & 1) == 0 && sumWith(turn, taken, k) == leastLeft[taken]) {
                    return k;
                }
            }
            return NONE;
        }
    }

    /** Parts a few sightings into as few fires as can be. A set of sightings is a number, a bit each. */
    private static final class Grouping {
        private final Entry[] members = new Entry[MOST_GROUPED];
        private final boolean[] canBeOne = new boolean[1 << MOST_GROUPED];
        private final int[] fewestOf = new int[1 << MOST_GROUPED];
        private int size = 0;

        void start() {
            size = 0;
        }

        boolean add(Entry entry) {
            if (size >= MOST_GROUPED) {
                return false;
            }
            members[size] = entry;
            size++;
            return true;
        }

        int fewestGroups() {
            findSetsWithCommonSquare();
            dropSetsWithClash();
            fewestOf[0] = 0;
            for (int set = 1; set < 1 << size; set++) {
                fewestOf[set] = fewestFor(set);
            }
            return fewestOf[(1 << size) - 1];
        }

        private void findSetsWithCommonSquare() {
            for (int set = 0; set < 1 << size; set++) {
                canBeOne[set] = false;
            }
            for (int n = 0; n < AREA; n++) {
                canBeOne[membersWith(n)] = true;
            }
            // What holds of a set holds of each set that is less by one: greater numbers come first.
            for (int set = (1 << size) - 1; set > 0; set--) {
                for (int m = 0; m < size && canBeOne[set]; m++) {
                    canBeOne[set & ~(1 << m)] = true;
                }
            }
        }

        private int membersWith(int square) {
            int set = 0;
            for (int m = 0; m < size; m++) {
                if (members[m].squares.contains(square)) {
                    set |= 1 << m;
                }
            }
            return set;
        }

        private void dropSetsWithClash() {
            for (int m = 1; m < size; m++) {
                for (int o = 0; o < m; o++) {
                    if (members[m].clashes(members[o])) {
                        dropSetsWith(1 << m | 1 << o);
                    }
                }
            }
        }

        private void dropSetsWith(int pair) {
            for (int set = 0; set < 1 << size; set++) {
                if ((set & pair) == pair) {
                    canBeOne[set] = false;
                }
            }
        }

        // Some fire has the lowest member: all that can be joined to it are tried.
        private int fewestFor(int set) {
            int lowest = set & -set;
            int others = set ^ lowest;
            int fewest = 1 + fewestOf[others];
            for (int with = others; with > 0; with = with - 1 & others) {
                if (canBeOne[with | lowest]) {
                    fewest = Math.min(fewest, 1 + fewestOf[others ^ with]);
                }
            }
            return fewest;
        }
    }
}
