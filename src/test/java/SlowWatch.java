import java.util.ArrayDeque;
import java.util.ArrayList;
import java.util.Arrays;
import java.util.Deque;
import java.util.List;
import java.util.TreeSet;

/**
 * The document written a second time, as near to its words as can be and without any care for
 * speed: the line is held against every square by fractions, ways are found by trying all edges
 * again and again, crews and fires by trying all rows, and undoing keeps whole copies.
 */
final class SlowWatch {
    static final int NONE = -1;

    private record Ground(int height, int minutes) { }

    private record Tower(int r, int c, int height) { }

    private static final class Note {
        int kind;
        int number;
        int tower = NONE;
        int reach = NONE;
        TreeSet<Integer> squares = new TreeSet<>();
    }

    private static final class FireState {
        boolean out;
        int again = NONE;
        TreeSet<Integer> patchWhenOut;

        FireState copy() {
            FireState f = new FireState();
            f.out = out;
            f.again = again;
            f.patchWhenOut = patchWhenOut;
            return f;
        }
    }

    /** What undoing brings back. */
    private static final class State {
        Note[] log = new Note[60];
        int[] fireOf = new int[60];
        List<FireState> fires = new ArrayList<>();
        List<Integer> crews = new ArrayList<>();

        State() {
            Arrays.fill(fireOf, NONE);
        }

        State copy() {
            State s = new State();
            s.log = log.clone();
            s.fireOf = fireOf.clone();
            for (FireState f : fires) {
                s.fires.add(f.copy());
            }
            s.crews.addAll(crews);
            return s;
        }
    }

    private final Ground[][] wood = new Ground[16][16];
    private List<Tower> towers = new ArrayList<>();
    private State now = new State();
    private Deque<State> past = new ArrayDeque<>();
    private final int[] sent = new int[20];
    private final int[] claims = new int[60];

    SlowWatch() {
        Arrays.fill(sent, NONE);
        Arrays.fill(claims, NONE);
    }

    private void act() {
        past.addLast(now.copy());
        if (past.size() > 50) {
            past.removeFirst();
        }
    }

    private Ground ground(int r, int c) {
        return r < 0 || r > 15 || c < 0 || c > 15 ? null : wood[r][c];
    }

    boolean row(int r, int n, int height, int minutes) {
        if (r < 0 || r > 15 || n < 0 || n > 16) {
            return false;
        }
        if (n != 0 && (height < -1000 || height > 3000 || minutes < 1 || minutes > 60)) {
            return false;
        }
        for (int c = 0; c < 16; c++) {
            wood[r][c] = c < n ? new Ground(height, minutes) : null;
        }
        towers = new ArrayList<>();
        now = new State();
        past = new ArrayDeque<>();
        Arrays.fill(sent, NONE);
        Arrays.fill(claims, NONE);
        return true;
    }

    private int used() {
        int n = 0;
        for (Note note : now.log) {
            n += note == null ? 0 : 1;
        }
        return n;
    }

    boolean square(int r, int c, int height, int minutes) {
        if (ground(r, c) == null || height < -1000 || height > 3000 || minutes < 1 || minutes > 60) {
            return false;
        }
        if (used() > 0 || !now.fires.isEmpty() || !now.crews.isEmpty()) {
            return false;
        }
        wood[r][c] = new Ground(height, minutes);
        return true;
    }

    int tower(int r, int c, int height) {
        if (ground(r, c) == null || height < 0 || height > 100 || towers.size() == 8 || used() > 0) {
            return NONE;
        }
        towers.add(new Tower(r, c, height));
        return towers.size() - 1;
    }

    private Tower towerAt(int t) {
        return t < 0 || t >= towers.size() ? null : towers.get(t);
    }

    /** A fraction with a divisor above 0. */
    private record Part(long top, long bottom) {
        static Part of(long top, long bottom) {
            return bottom < 0 ? new Part(-top, -bottom) : new Part(top, bottom);
        }

        int compare(Part other) {
            return Long.compare(top * other.bottom, other.top * bottom);
        }

        Part max(Part other) {
            return compare(other) >= 0 ? this : other;
        }

        Part min(Part other) {
            return compare(other) <= 0 ? this : other;
        }
    }

    /** The part of the line, from 0 to 1, that lies between the edges of a row or column; null: none. */
    private static Part[] between(int from, int to, int at) {
        Part[] all = {new Part(0, 1), new Part(1, 1)};
        if (from == to) {
            return at == from ? all : null;
        }
        Part a = Part.of(2L * (at - from) - 1, 2L * (to - from));
        Part b = Part.of(2L * (at - from) + 1, 2L * (to - from));
        return new Part[] {all[0].max(a.min(b)), all[1].min(a.max(b))};
    }

    private int hiding(int r, int c, int eye, int toR, int toC) {
        int found = NONE;
        Part first = null;
        for (int y = Math.min(r, toR); y <= Math.max(r, toR); y++) {
            for (int x = Math.min(c, toC); x <= Math.max(c, toC); x++) {
                Part[] rows = between(r, toR, y);
                Part[] columns = between(c, toC, x);
                boolean end = y == r && x == c || y == toR && x == toC;
                if (end || rows == null || columns == null) {
                    continue;
                }
                Part in = rows[0].max(columns[0]);
                Part out = rows[1].min(columns[1]);
                if (in.compare(out) >= 0) {
                    continue;
                }
                if (hides(y, x, eye, wood[toR][toC].height, in, out)
                    && (first == null || in.compare(first) < 0)) {
                    first = in;
                    found = 16 * y + x;
                }
            }
        }
        return found;
    }

    private boolean hides(int y, int x, int eye, int end, Part in, Part out) {
        if (wood[y][x] == null) {
            return true;
        }
        Part atIn = new Part(eye * in.bottom + (end - eye) * in.top, in.bottom);
        Part atOut = new Part(eye * out.bottom + (end - eye) * out.top, out.bottom);
        return new Part(wood[y][x].height, 1).compare(atIn.min(atOut)) >= 0;
    }

    private int hiding(Tower t, int r, int c) {
        return hiding(t.r, t.c, wood[t.r][t.c].height + t.height, r, c);
    }

    int see(int t, int r, int c) {
        if (towerAt(t) == null || ground(r, c) == null) {
            return NONE;
        }
        return hiding(towerAt(t), r, c) == NONE ? 1 : 0;
    }

    int hidden(int t, int r, int c) {
        return towerAt(t) == null || ground(r, c) == null ? NONE : hiding(towerAt(t), r, c);
    }

    private static boolean told(int minute, int down, int right, int side) {
        return minute >= 0 && minute <= 9999 && Math.abs((long) down) <= 50 && Math.abs((long) right) <= 50
            && !(down == 0 && right == 0) && side >= 0 && side <= 400;
    }

    private boolean has(int kind, int[] eye, int[] aim, int reach, int r, int c) {
        if (ground(r, c) == null || r == eye[0] && c == eye[1]) {
            return false;
        }
        int y = r - eye[0];
        int x = c - eye[1];
        int along = y * aim[0] + x * aim[1];
        if (along <= 0 || 100 * Math.abs(y * aim[1] - x * aim[0]) > aim[2] * along) {
            return false;
        }
        if ((kind == 1 || kind == 2) && y * y + x * x > reach * reach) {
            return false;
        }
        return kind >= 3 || hiding(eye[0], eye[1], eye[2], r, c) == NONE;
    }

    private TreeSet<Integer> squaresOf(int kind, int[] eye, int[] aim, int reach) {
        TreeSet<Integer> squares = new TreeSet<>();
        for (int n = 0; n < 256; n++) {
            if (has(kind, eye, aim, reach, n / 16, n % 16)) {
                squares.add(n);
            }
        }
        return squares;
    }

    private int keep(Note note) {
        for (int i = 0; i < 60; i++) {
            if (now.log[i] == null) {
                act();
                now.log[i] = note;
                return i;
            }
        }
        return NONE;
    }

    private int[] eyeOf(Tower t) {
        return new int[] {t.r, t.c, wood[t.r][t.c].height + t.height};
    }

    int sight(int kind, int t, int minute, int down, int right, int side, int reach, int haze) {
        if (kind < 0 || kind > 3 || towerAt(t) == null || !told(minute, down, right, side)) {
            return NONE;
        }
        Note note = new Note();
        if (kind == 1 || kind == 2) {
            if (reach < 1 || reach > 40) {
                return NONE;
            }
            note.reach = reach;
        }
        if (kind == 2) {
            float f = Float.intBitsToFloat(haze);
            if (!(f >= 0f && f <= 1f)) {
                return NONE;
            }
            int h = (int) (f * 100f);
            note.reach = reach - reach * h / 100;
        }
        note.kind = kind;
        note.number = minute;
        note.tower = t;
        note.squares = squaresOf(kind, eyeOf(towers.get(t)), new int[] {down, right, side}, note.reach);
        return keep(note);
    }

    int report(int r, int c, int minute, int down, int right, int side) {
        if (ground(r, c) == null || !told(minute, down, right, side)) {
            return NONE;
        }
        Note note = new Note();
        note.kind = 4;
        note.number = minute;
        note.squares = squaresOf(4, new int[] {r, c, wood[r][c].height + 2}, new int[] {down, right, side}, 0);
        return keep(note);
    }

    int remark(int v) {
        Note note = new Note();
        note.kind = 5;
        note.number = v;
        return keep(note);
    }

    boolean clear(int i) {
        if (i < 0 || i > 59 || now.log[i] == null || now.fireOf[i] != NONE) {
            return false;
        }
        act();
        now.log[i] = null;
        return true;
    }

    private Note sighting(int i) {
        return i < 0 || i > 59 || now.log[i] == null || now.log[i].kind == 5 ? null : now.log[i];
    }

    private TreeSet<Integer> patchOf(int f) {
        TreeSet<Integer> patch = null;
        for (int i = 0; i < 60; i++) {
            if (now.fireOf[i] == f) {
                if (patch == null) {
                    patch = new TreeSet<>(now.log[i].squares);
                } else {
                    patch.retainAll(now.log[i].squares);
                }
            }
        }
        return patch == null ? new TreeSet<>() : patch;
    }

    private int joined(int f) {
        int n = 0;
        for (int g : now.fireOf) {
            n += g == f ? 1 : 0;
        }
        return n;
    }

    private boolean burns(int f) {
        return f >= 0 && f < now.fires.size() && !now.fires.get(f).out && joined(f) > 0;
    }

    private static boolean same(Note a, Note b) {
        return a.tower != NONE && a.tower == b.tower && a.number == b.number;
    }

    private boolean fits(int i, int f) {
        if (!burns(f) || sighting(i) == null || now.fireOf[i] != NONE) {
            return false;
        }
        for (int j = 0; j < 60; j++) {
            if (now.fireOf[j] == f && same(now.log[i], now.log[j])) {
                return false;
            }
        }
        TreeSet<Integer> patch = patchOf(f);
        patch.retainAll(now.log[i].squares);
        return !patch.isEmpty();
    }

    private List<Integer> fitting(int i) {
        List<Integer> list = new ArrayList<>();
        for (int f = 0; f < now.fires.size(); f++) {
            if (fits(i, f)) {
                list.add(f);
            }
        }
        return list;
    }

    int log(int i, int what) {
        if (i < 0 || i > 59) {
            return NONE;
        }
        Note note = now.log[i];
        if (note == null) {
            return what == 0 ? 6 : NONE;
        }
        if (what == 0) {
            return note.kind;
        }
        if (what == 1) {
            return note.number;
        }
        if (note.kind == 5) {
            return NONE;
        }
        return switch (what) {
            case 2 -> note.tower;
            case 3 -> note.squares.size();
            case 4 -> now.fireOf[i];
            case 5 -> note.reach;
            case 6 -> fitting(i).size();
            default -> NONE;
        };
    }

    private static int nth(TreeSet<Integer> set, int k) {
        return k < 0 || k >= set.size() ? NONE : new ArrayList<>(set).get(k);
    }

    int squares(int i, int k) {
        return sighting(i) == null ? NONE : nth(sighting(i).squares, k);
    }

    boolean join(int i, int f) {
        if (!fits(i, f)) {
            return false;
        }
        act();
        now.fireOf[i] = f;
        return true;
    }

    int begin(int i) {
        Note note = sighting(i);
        if (note == null || now.fireOf[i] != NONE || note.squares.isEmpty() || now.fires.size() == 20) {
            return NONE;
        }
        act();
        FireState fire = new FireState();
        for (int f = 0; f < now.fires.size(); f++) {
            if (now.fires.get(f).out) {
                TreeSet<Integer> both = new TreeSet<>(now.fires.get(f).patchWhenOut);
                both.retainAll(note.squares);
                fire.again = both.isEmpty() ? fire.again : f;
            }
        }
        now.fires.add(fire);
        now.fireOf[i] = now.fires.size() - 1;
        return now.fires.size() - 1;
    }

    boolean apart(int i) {
        if (sighting(i) == null || now.fireOf[i] == NONE || now.fires.get(now.fireOf[i]).out) {
            return false;
        }
        act();
        now.fireOf[i] = NONE;
        return true;
    }

    int office() {
        int n = 0;
        boolean more = true;
        while (more) {
            more = false;
            for (int i = 0; i < 60 && !more; i++) {
                List<Integer> list = fitting(i);
                if (list.size() == 1) {
                    more = join(i, list.get(0));
                    n++;
                }
            }
        }
        return n;
    }

    boolean out(int f) {
        if (!burns(f)) {
            return false;
        }
        act();
        now.fires.get(f).out = true;
        now.fires.get(f).patchWhenOut = patchOf(f);
        return true;
    }

    private static int way(int a, int b) {
        return Math.abs(a / 16 - b / 16) + Math.abs(a % 16 - b % 16);
    }

    private static int middle(TreeSet<Integer> patch) {
        int least = Integer.MAX_VALUE;
        int found = NONE;
        for (int a : patch) {
            int sum = 0;
            for (int b : patch) {
                sum += way(a, b);
            }
            if (sum < least) {
                least = sum;
                found = a;
            }
        }
        return found;
    }

    int fire(int f, int what) {
        if (f < 0 || f >= now.fires.size()) {
            return NONE;
        }
        return switch (what) {
            case 0 -> now.fires.get(f).out ? 1 : joined(f) > 0 ? 0 : 2;
            case 1 -> joined(f);
            case 2 -> patchOf(f).size();
            case 3 -> middle(patchOf(f));
            case 4 -> now.fires.get(f).again;
            default -> NONE;
        };
    }

    int patch(int f, int k) {
        return f < 0 || f >= now.fires.size() ? NONE : nth(patchOf(f), k);
    }

    int fewest(int from, int to) {
        List<Note> notes = new ArrayList<>();
        boolean none = false;
        for (int i = 0; i < 60; i++) {
            Note note = sighting(i);
            if (note != null && note.number >= from && note.number <= to) {
                notes.add(note);
                none |= note.squares.isEmpty();
            }
        }
        return notes.size() > 10 || none ? NONE : part(notes, 0, new ArrayList<>());
    }

    /** Tries every way to part the notes from n on over the groups and new ones. */
    private static int part(List<Note> notes, int n, List<List<Note>> groups) {
        if (n == notes.size()) {
            return groups.size();
        }
        int least = Integer.MAX_VALUE;
        for (int g = 0; g < groups.size(); g++) {
            groups.get(g).add(notes.get(n));
            if (isFire(groups.get(g))) {
                least = Math.min(least, part(notes, n + 1, groups));
            }
            groups.get(g).remove(groups.get(g).size() - 1);
        }
        groups.add(new ArrayList<>(List.of(notes.get(n))));
        least = Math.min(least, part(notes, n + 1, groups));
        groups.remove(groups.size() - 1);
        return least;
    }

    private static boolean isFire(List<Note> group) {
        TreeSet<Integer> common = new TreeSet<>(group.get(0).squares);
        for (int a = 0; a < group.size(); a++) {
            common.retainAll(group.get(a).squares);
            for (int b = 0; b < a; b++) {
                if (same(group.get(a), group.get(b))) {
                    return false;
                }
            }
        }
        return !common.isEmpty();
    }

    int next(int f) {
        if (!burns(f)) {
            return NONE;
        }
        int[][] aims = {{-1, 0}, {-1, 1}, {0, 1}, {1, 1}, {1, 0}, {1, -1}, {0, -1}, {-1, -1}};
        TreeSet<Integer> patch = patchOf(f);
        int least = Integer.MAX_VALUE;
        int found = NONE;
        for (int t = 0; t < towers.size(); t++) {
            for (int d = 0; d < 8; d++) {
                int with = 0;
                for (int n : patch) {
                    int[] aim = {aims[d][0], aims[d][1], 41};
                    with += has(0, eyeOf(towers.get(t)), aim, 0, n / 16, n % 16) ? 1 : 0;
                }
                int greater = Math.max(with, patch.size() - with);
                if (greater < least) {
                    least = greater;
                    found = 8 * t + d;
                }
            }
        }
        return found;
    }

    int crew(int r, int c) {
        if (ground(r, c) == null || now.crews.size() == 8) {
            return NONE;
        }
        act();
        now.crews.add(16 * r + c);
        return now.crews.size() - 1;
    }

    private Ground ground(int n) {
        return ground(n / 16, n % 16);
    }

    private List<Integer> beside(int n) {
        List<Integer> list = new ArrayList<>();
        int[][] steps = {{-1, 0}, {0, -1}, {0, 1}, {1, 0}};
        for (int[] step : steps) {
            int r = n / 16 + step[0];
            int c = n % 16 + step[1];
            if (ground(r, c) != null) {
                list.add(16 * r + c);
            }
        }
        return list;
    }

    private int step(int a, int b) {
        return ground(b).minutes + Math.max(0, ground(b).height - ground(a).height) / 10;
    }

    /** The least minutes from a square to all: every edge is tried till nothing changes; NONE: no way. */
    private int[] from(int start) {
        int[] least = new int[256];
        Arrays.fill(least, NONE);
        least[start] = 0;
        boolean changed = true;
        while (changed) {
            changed = false;
            for (int a = 0; a < 256; a++) {
                if (least[a] == NONE) {
                    continue;
                }
                for (int b : beside(a)) {
                    int sum = least[a] + step(a, b);
                    if (least[b] == NONE || sum < least[b]) {
                        least[b] = sum;
                        changed = true;
                    }
                }
            }
        }
        return least;
    }

    boolean move(int k, int r, int c) {
        if (minutes(k, r, c) == NONE) {
            return false;
        }
        act();
        now.crews.set(k, 16 * r + c);
        return true;
    }

    int place(int k) {
        return k < 0 || k >= now.crews.size() ? NONE : now.crews.get(k);
    }

    int minutes(int k, int r, int c) {
        return place(k) == NONE || ground(r, c) == null ? NONE : from(place(k))[16 * r + c];
    }

    int way(int k, int r, int c, int i) {
        int sum = minutes(k, r, c);
        if (sum == NONE || i < 0) {
            return NONE;
        }
        int at = place(k);
        for (int n = 0; n < i; n++) {
            int to = NONE;
            for (int b : beside(at)) {
                int rest = from(b)[16 * r + c];
                if (to == NONE && rest != NONE && step(at, b) + rest == sum) {
                    to = b;
                }
            }
            if (to == NONE) {
                return NONE;
            }
            sum -= step(at, to);
            at = to;
        }
        return at;
    }

    private int bestSum;
    private int[] bestCrews;

    private void tryCrews(int[][] minutes, int n, int[] crews, int sum) {
        if (n == minutes.length) {
            if (bestCrews == null || sum < bestSum) {
                bestSum = sum;
                bestCrews = crews.clone();
            }
            return;
        }
        for (int k = 0; k < now.crews.size(); k++) {
            boolean free = minutes[n][k] != NONE;
            for (int m = 0; m < n; m++) {
                free &= crews[m] != k;
            }
            if (free) {
                crews[n] = k;
                tryCrews(minutes, n + 1, crews, sum + minutes[n][k]);
            }
        }
    }

    int send() {
        List<Integer> burning = new ArrayList<>();
        for (int f = 0; f < now.fires.size(); f++) {
            if (burns(f)) {
                burning.add(f);
            }
        }
        if (burning.isEmpty() || burning.size() > now.crews.size()) {
            return NONE;
        }
        int[][] minutes = new int[burning.size()][now.crews.size()];
        for (int k = 0; k < now.crews.size(); k++) {
            int[] least = from(now.crews.get(k));
            for (int n = 0; n < burning.size(); n++) {
                minutes[n][k] = least[middle(patchOf(burning.get(n)))];
            }
        }
        bestCrews = null;
        tryCrews(minutes, 0, new int[burning.size()], 0);
        if (bestCrews == null) {
            return NONE;
        }
        Arrays.fill(sent, NONE);
        for (int n = 0; n < burning.size(); n++) {
            sent[burning.get(n)] = bestCrews[n];
        }
        return bestSum;
    }

    int sent(int f) {
        return f < 0 || f > 19 ? NONE : sent[f];
    }

    private TreeSet<Integer> unseen() {
        TreeSet<Integer> set = new TreeSet<>();
        for (int n = 0; n < 256; n++) {
            boolean seen = false;
            for (Tower t : towers) {
                seen |= ground(n) != null && hiding(t, n / 16, n % 16) == NONE;
            }
            if (ground(n) != null && !seen) {
                set.add(n);
            }
        }
        return set;
    }

    int blinds() {
        return unseen().size();
    }

    int blind(int k) {
        return nth(unseen(), k);
    }

    int best() {
        TreeSet<Integer> unseen = unseen();
        int most = -1;
        int found = NONE;
        for (int n = 0; n < 256 && !unseen.isEmpty(); n++) {
            if (ground(n) == null) {
                continue;
            }
            int sees = 0;
            for (int m : unseen) {
                sees += hiding(n / 16, n % 16, ground(n).height + 10, m / 16, m % 16) == NONE ? 1 : 0;
            }
            if (sees > most) {
                most = sees;
                found = n;
            }
        }
        return found;
    }

    boolean claim(int i, int f) {
        if (i < 0 || i > 59 || f < -1 || f > 59) {
            return false;
        }
        claims[i] = f;
        return true;
    }

    int check() {
        for (int i = 0; i < 60; i++) {
            if (sighting(i) == null || claims[i] == NONE) {
                continue;
            }
            List<Note> group = new ArrayList<>();
            for (int j = 0; j <= i; j++) {
                if (sighting(j) != null && claims[j] == claims[i]) {
                    group.add(now.log[j]);
                }
            }
            if (!isFire(group)) {
                return i;
            }
        }
        return NONE;
    }

    boolean undo() {
        if (past.isEmpty()) {
            return false;
        }
        now = past.removeLast();
        return true;
    }

    int count(int what) {
        int there = 0;
        for (int n = 0; n < 256; n++) {
            there += ground(n) == null ? 0 : 1;
        }
        return switch (what) {
            case 0 -> towers.size();
            case 1 -> used();
            case 2 -> now.fires.size();
            case 3 -> now.crews.size();
            case 4 -> past.size();
            case 5 -> there;
            default -> NONE;
        };
    }
}
