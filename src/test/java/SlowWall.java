import java.math.BigInteger;
import java.util.ArrayDeque;
import java.util.ArrayList;
import java.util.HashSet;
import java.util.LinkedHashMap;
import java.util.List;
import java.util.Map;
import java.util.Set;
import java.util.regex.Matcher;
import java.util.regex.Pattern;

/**
 * The document told a second time, by other means and without any care for speed: texts by regular
 * expressions, what is best by trying everything on whole copies. ModelTest holds the two together.
 */
final class SlowWall {
    static final int BAD = -1, NO = -2, FULL = -3, NONE = -4;

    private static final Pattern ITEM = Pattern.compile(
            "r([0-9]{1,6});|([cm])([0-9]{1,2}),([0-9]{1,2}),([0-9]{1,2}),([0-9]{1,2});");

    record Told(char letter, int a, int b, int c, int d) { }

    /** All that acts change. */
    static final class State {
        int[][] wall;
        int year;
        Set<Integer> pardoned = new HashSet<>();
        int[] left;
        int[] at;

        State copy() {
            State s = new State();
            s.wall = new int[wall.length][];
            for (int i = 0; i < wall.length; i++) {
                s.wall[i] = wall[i].clone();
            }
            s.year = year;
            s.pardoned = new HashSet<>(pardoned);
            s.left = left.clone();
            s.at = at.clone();
            return s;
        }
    }

    String text = "";
    private List<String> rows = new ArrayList<>();
    private List<Told> cases = new ArrayList<>();
    private List<Told> maids = new ArrayList<>();
    State now;
    private final ArrayDeque<State> undo = new ArrayDeque<>();
    private final ArrayDeque<State> kept = new ArrayDeque<>();
    private final List<int[]> seen = new ArrayList<>();

    SlowWall() {
        text = "r000000;r003000;r010020;c0,7,3,0;c1,12,4,1;c2,9,5,2;c3,16,2,0;c1,2,6,4;"
                + "m0,4,3,0;m1,3,4,8;m2,6,2,17;";
        lay();
        text = "";
    }

    int write(int letter) {
        if (letter < 32 || letter > 126) {
            return BAD;
        }
        if (text.length() == 200) {
            return FULL;
        }
        text += (char) letter;
        return text.length();
    }

    int wipe() {
        int was = text.length();
        text = "";
        return was;
    }

    int fault() {
        return read(new ArrayList<>(), new ArrayList<>(), new ArrayList<>());
    }

    private int read(List<String> r, List<Told> c, List<Told> m) {
        int at = 0;
        Matcher item = ITEM.matcher(text);
        while (at < text.length()) {
            item.region(at, text.length());
            if (!item.lookingAt()) {
                return at;
            }
            int cells = r.isEmpty() ? 0 : r.size() * r.get(0).length();
            if (item.group(1) != null) {
                if (r.size() == 4 || !r.isEmpty() && r.get(0).length() != item.group(1).length()) {
                    return at;
                }
                r.add(item.group(1));
            } else {
                Told t = new Told(item.group(2).charAt(0), Integer.parseInt(item.group(3)),
                        Integer.parseInt(item.group(4)), Integer.parseInt(item.group(5)),
                        Integer.parseInt(item.group(6)));
                boolean isCase = t.letter == 'c';
                boolean ok = t.a <= 3 && (isCase
                        ? t.b < cells && t.c >= 1 && t.c <= 9 && t.d <= 19 && c.size() < 6
                        : t.b >= 1 && t.b <= 9 && t.c >= 1 && t.c <= 9 && t.d < cells && m.size() < 3);
                if (!ok) {
                    return at;
                }
                (isCase ? c : m).add(t);
            }
            at = item.end();
        }
        return NONE;
    }

    int lay() {
        List<String> r = new ArrayList<>();
        List<Told> c = new ArrayList<>();
        List<Told> m = new ArrayList<>();
        if (read(r, c, m) != NONE || r.isEmpty()) {
            return NO;
        }
        rows = r;
        cases = c;
        maids = m;
        now = first();
        undo.clear();
        kept.clear();
        seen.clear();
        return cells();
    }

    private State first() {
        State s = new State();
        s.wall = new int[rows.size()][width()];
        for (int i = 0; i < rows.size(); i++) {
            for (int j = 0; j < width(); j++) {
                s.wall[i][j] = rows.get(i).charAt(j) - '0';
            }
        }
        s.left = new int[maids.size()];
        s.at = new int[maids.size()];
        for (int m = 0; m < maids.size(); m++) {
            s.left[m] = maids.get(m).c;
            s.at[m] = maids.get(m).d;
        }
        return s;
    }

    private int width() {
        return rows.get(0).length();
    }

    private int cells() {
        return rows.size() * width();
    }

    private int at(State s, int x) {
        return s.wall[x / width()][x % width()];
    }

    private void put(State s, int x, int h) {
        s.wall[x / width()][x % width()] = Math.max(0, Math.min(40, h));
    }

    private boolean next(int x, int y) {
        int down = Math.abs(x / width() - y / width());
        int along = Math.abs(x % width() - y % width());
        return down + along == 1;
    }

    private boolean sameRow(int x, int y) {
        return y < cells() && x / width() == y / width();
    }

    private boolean bad(int x, int bound) {
        return x < 0 || x >= bound;
    }

    int high(int x) {
        return bad(x, cells()) ? BAD : at(now, x);
    }

    int matter(int c, int what) {
        if (bad(c, cases.size()) || bad(what, 6)) {
            return BAD;
        }
        Told t = cases.get(c);
        State s = now.copy();
        if (!s.pardoned.contains(c)) {
            comeUp(s, t, t.c);
        }
        int[] all = {t.a, t.b, t.c, t.d, now.pardoned.contains(c) ? 1 : 0, at(s, t.b) - at(now, t.b)};
        return all[what];
    }

    int maid(int m, int what) {
        if (bad(m, maids.size()) || bad(what, 5)) {
            return BAD;
        }
        State s = now.copy();
        s.left[m] = 1;
        give(s, m, s.at[m]);
        int off = at(now, now.at[m]) - at(s, now.at[m]);
        int[] all = {maids.get(m).a, maids.get(m).b, now.left[m], now.at[m], off};
        return all[what];
    }

    private void comeUp(State s, Told t, int depth) {
        boolean stoodHollow = at(s, t.b) >= 12;
        if (t.a == 0 || t.a == 1) {
            put(s, t.b, at(s, t.b) + depth);
        }
        if (t.a == 1 && sameRow(t.b, t.b + 1)) {
            put(s, t.b + 1, at(s, t.b + 1) + depth / 2);
        }
        for (int x = 0; t.a == 2 && x < cells(); x++) {
            if (next(x, t.b)) {
                put(s, x, at(s, x) + depth / 2 + 1);
            }
        }
        if (t.a == 3) {
            put(s, t.b, at(s, t.b) + (stoodHollow ? depth + depth : depth));
        }
    }

    private void years(State s, int n, int changed, int depth) {
        for (int i = 0; i < n; i++) {
            for (int c = 0; c < cases.size(); c++) {
                Told t = cases.get(c);
                if (s.year >= t.d && !s.pardoned.contains(c)) {
                    comeUp(s, t, c == changed ? depth : t.c);
                }
            }
            for (int m = 0; m < maids.size(); m++) {
                s.left[m] = maids.get(m).c;
            }
            s.year++;
        }
    }

    private boolean give(State s, int m, int x) {
        if (s.left[m] == 0 || s.at[m] != x && !next(s.at[m], x)) {
            return false;
        }
        int iron = maids.get(m).b;
        int h = at(s, x);
        switch (maids.get(m).a) {
            case 0 -> put(s, x, h - iron);
            case 1 -> {
                put(s, x, h - iron);
                if (sameRow(x, x + 1)) {
                    put(s, x + 1, at(s, x + 1) - iron / 2);
                }
            }
            case 2 -> put(s, x, h - 1 - iron / 2);
            default -> put(s, x, h >= 12 ? h : h - 2 * iron);
        }
        s.left[m]--;
        s.at[m] = x;
        return true;
    }

    private void remember() {
        undo.addLast(now.copy());
        if (undo.size() > 8) {
            undo.removeFirst();
        }
    }

    int stroke(int m, int x) {
        if (bad(m, maids.size()) || bad(x, cells())) {
            return BAD;
        }
        if (!give(now.copy(), m, x)) {
            return NO;
        }
        remember();
        give(now, m, x);
        return at(now, x);
    }

    int pass(int n) {
        if (n < 1 || n > 20) {
            return BAD;
        }
        if (now.year + n > 999) {
            return NO;
        }
        remember();
        years(now, n, -1, 0);
        return now.year;
    }

    int pardon(int c) {
        if (bad(c, cases.size())) {
            return BAD;
        }
        if (now.pardoned.contains(c)) {
            return NO;
        }
        remember();
        now.pardoned.add(c);
        return cases.size() - now.pardoned.size();
    }

    int undo() {
        if (undo.isEmpty()) {
            return NO;
        }
        now = undo.removeLast();
        return undo.size();
    }

    int behind(int n, int x) {
        if (bad(n, 21) || bad(x, cells())) {
            return BAD;
        }
        State s = now.copy();
        years(s, n, -1, 0);
        return at(s, x);
    }

    int hollowed(int x) {
        if (bad(x, cells())) {
            return BAD;
        }
        for (int n = 0; n <= 20; n++) {
            if (behind(n, x) >= 12) {
                return n;
            }
        }
        return NONE;
    }

    /** Keeps, of all ways to each state of the whole wall, the first; level by level. */
    int smooth(int m, int x, int k) {
        if (bad(m, maids.size()) || bad(x, cells()) || k < -1) {
            return BAD;
        }
        Map<String, List<Integer>> ways = new LinkedHashMap<>();
        Map<String, State> states = new LinkedHashMap<>();
        ways.put("", new ArrayList<>());
        states.put("", now.copy());
        for (int n = 0; n <= now.left[m]; n++) {
            for (Map.Entry<String, State> e : states.entrySet()) {
                if (at(e.getValue(), x) == 0) {
                    return k == -1 ? n : k < n ? ways.get(e.getKey()).get(k) : NONE;
                }
            }
            Map<String, List<Integer>> ways2 = new LinkedHashMap<>();
            Map<String, State> states2 = new LinkedHashMap<>();
            for (Map.Entry<String, State> e : states.entrySet()) {
                for (int cell = 0; cell < cells(); cell++) {
                    State s = e.getValue().copy();
                    if (give(s, m, cell)) {
                        String key = java.util.Arrays.deepToString(s.wall) + s.at[m];
                        if (!states2.containsKey(key)) {
                            List<Integer> way = new ArrayList<>(ways.get(e.getKey()));
                            way.add(cell);
                            ways2.put(key, way);
                            states2.put(key, s);
                        }
                    }
                }
            }
            ways = ways2;
            states = states2;
        }
        return NONE;
    }

    int round(int m, int n, int k) {
        if (bad(m, maids.size()) || n < 1 || n > 5 || k < -1 || k > 4) {
            return BAD;
        }
        if (now.left[m] < n) {
            return NO;
        }
        int[] best = bestRound(now, m, n);
        return k == -1 ? best[0] : k < n ? best[k + 1] : NONE;
    }

    /** The least sum, and behind it the cells. */
    private int[] bestRound(State s, int m, int n) {
        if (n == 0) {
            return new int[] {sum(s)};
        }
        int[] best = null;
        for (int cell = 0; cell < cells(); cell++) {
            State t = s.copy();
            if (give(t, m, cell)) {
                int[] rest = bestRound(t, m, n - 1);
                if (best == null || rest[0] < best[0]) {
                    best = new int[n + 1];
                    best[0] = rest[0];
                    best[1] = cell;
                    System.arraycopy(rest, 1, best, 2, n - 1);
                }
            }
        }
        return best;
    }

    private int sum(State s) {
        int sum = 0;
        for (int x = 0; x < cells(); x++) {
            sum += at(s, x);
        }
        return sum;
    }

    private int hollow(State s) {
        int n = 0;
        for (int x = 0; x < cells(); x++) {
            n += at(s, x) >= 12 ? 1 : 0;
        }
        return n;
    }

    int chairs(int h) {
        return bad(h, 41) ? BAD : chairsFrom(0, h, new ArrayList<>());
    }

    private int chairsFrom(int x, int h, List<Integer> chosen) {
        if (x == cells()) {
            return chosen.size();
        }
        int most = chairsFrom(x + 1, h, chosen);
        if (at(now, x) <= h && chosen.stream().noneMatch(y -> next(x, y))) {
            chosen.add(x);
            most = Math.max(most, chairsFrom(x + 1, h, chosen));
            chosen.remove(chosen.size() - 1);
        }
        return most;
    }

    int pardons(int n, int what) {
        if (n < 1 || n > 20 || bad(what, 2)) {
            return BAD;
        }
        int[] sums = new int[cases.size()];
        int best = -1;
        for (int c = cases.size() - 1; c >= 0; c--) {
            State s = now.copy();
            if (s.pardoned.add(c)) {
                years(s, n, -1, 0);
                sums[c] = sum(s);
                best = best < 0 || sums[c] <= sums[best] ? c : best;
            }
        }
        return best < 0 ? NONE : what == 0 ? best : sums[best];
    }

    int see(int x, int h) {
        if (bad(x, cells()) || bad(h, 41)) {
            return BAD;
        }
        if (seen.size() == 8) {
            return FULL;
        }
        seen.add(new int[] {x, h});
        return seen.size();
    }

    int forget() {
        int was = seen.size();
        seen.clear();
        return was;
    }

    private boolean agrees(State s) {
        return seen.stream().allMatch(o -> at(s, o[0]) == o[1]);
    }

    int mind(int n, int what) {
        if (n < 1 || n > 20 || bad(what, 2)) {
            return BAD;
        }
        List<Integer> sets = new ArrayList<>();
        for (int set = 0; set < 1 << cases.size(); set++) {
            State s = first();
            for (int c = 0; c < cases.size(); c++) {
                if (!BigInteger.valueOf(set).testBit(c)) {
                    s.pardoned.add(c);
                }
            }
            years(s, n, -1, 0);
            if (agrees(s)) {
                sets.add(set);
            }
        }
        return what == 0 ? sets.size() : sets.isEmpty() ? NONE : sets.get(0);
    }

    int deep(int c, int n, int what) {
        if (bad(c, cases.size()) || n < 1 || n > 20 || bad(what, 2)) {
            return BAD;
        }
        List<Integer> depths = new ArrayList<>();
        for (int d = 1; d <= 9; d++) {
            State s = first();
            years(s, n, c, d);
            if (agrees(s)) {
                depths.add(d);
            }
        }
        return what == 0 ? depths.size() : depths.isEmpty() ? NONE : depths.get(0);
    }

    /** By a wall of the one cell and all 2 to the n ways to slip. */
    int slip(int m, int x, int n, int t, int part) {
        if (bad(m, maids.size()) || bad(x, cells()) || bad(n, 9) || bad(t, 11) || bad(part, 2)) {
            return BAD;
        }
        BigInteger above = BigInteger.ZERO;
        for (int slips = 0; slips < 1 << n; slips++) {
            State s = now.copy();
            BigInteger ways = BigInteger.ONE;
            for (int i = 0; i < n; i++) {
                boolean slipped = (slips >> i & 1) == 1;
                ways = ways.multiply(BigInteger.valueOf(slipped ? t : 10 - t));
                if (!slipped) {
                    s.left[m] = 1;
                    s.at[m] = x;
                    give(s, m, x);
                }
            }
            above = at(s, x) == 0 ? above.add(ways) : above;
        }
        BigInteger below = BigInteger.TEN.pow(n);
        BigInteger g = above.gcd(below);
        return (part == 0 ? above : below).divide(g).intValueExact();
    }

    int evening(int z, int n, int what) {
        if (bad(z, 10000) || n < 1 || n > 60 || bad(what, 2)) {
            return BAD;
        }
        State s = now.copy();
        for (int k = 0; k < n; k++) {
            BigInteger x = BigInteger.valueOf(7919).multiply(BigInteger.valueOf(z))
                    .add(BigInteger.valueOf(6151).multiply(BigInteger.valueOf(k))).add(BigInteger.ONE);
            int draw = x.modPow(BigInteger.TWO, BigInteger.valueOf(65521)).intValueExact();
            if (draw % 8 == 7) {
                if (s.year + 1 <= 999) {
                    years(s, 1, -1, 0);
                }
            } else if (draw % 8 == 6) {
                if (!cases.isEmpty()) {
                    s.pardoned.add(draw / 8 % cases.size());
                }
            } else if (!maids.isEmpty()) {
                give(s, draw / 8 % maids.size(), draw / 64 % cells());
            }
        }
        return what == 0 ? sum(s) : hollow(s);
    }

    int keep() {
        if (kept.size() == 2) {
            return FULL;
        }
        kept.addLast(now.copy());
        return kept.size();
    }

    int back() {
        if (kept.isEmpty()) {
            return NO;
        }
        now = kept.removeLast();
        undo.clear();
        return kept.size();
    }

    int count(int what) {
        if (bad(what, 13)) {
            return BAD;
        }
        int left = 0;
        for (int m = 0; m < maids.size(); m++) {
            left += now.left[m];
        }
        int[] all = {cells(), width(), cases.size(), maids.size(), now.year, sum(now), hollow(now),
            cases.size() - now.pardoned.size(), left, seen.size(), undo.size(), kept.size(),
            text.length()};
        return all[what];
    }
}
