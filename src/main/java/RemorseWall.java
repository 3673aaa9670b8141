import java.util.Arrays;

/**
 * A wall of thick embossed stuff, the cases that come up in it year by year, and the maids who
 * iron it down. README.md says how to use it; the document's promises say what each call answers.
 *
 * <p>All rows are made once, with the object, and used again by every call: no call makes any.
 */
public final class RemorseWall {
    public static final int BAD = -1, NO = -2, FULL = -3, NONE = -4;

    private static final int MOST_LETTERS = 200;
    private static final int MOST_ROWS = 4;
    private static final int MOST_WIDTH = 6;
    private static final int MOST_CELLS = MOST_ROWS * MOST_WIDTH;
    private static final int MOST_CASES = 6;
    private static final int MOST_MAIDS = 3;
    private static final int MOST_UNDONE = 8;
    private static final int MOST_KEPT = 2;
    private static final int MOST_SEEN = 8;

    private static final int TOP = 40;
    private static final int HOLLOW_FROM = 12;
    private static final int LAST_YEAR = 999;
    private static final int MOST_YEARS = 20;
    private static final int MOST_DEPTH = 9;
    private static final int MOST_IRON = 9;
    private static final int MOST_STROKES = 9;
    private static final int MOST_ROUND = 5;
    private static final int MOST_SLIPPING = 8;
    private static final int TENTHS = 10;
    private static final int LAST_EVENING = 9999;
    private static final int MOST_DRAWS = 60;

    private static final int LAST_KIND = 3;
    private static final int VINE = 1, FAIR = 2, DOOR = 3;
    private static final int THOROUGH = 1, GENTLE = 2, HASTY = 3;

    /** What is told of a case or a maid stands in the order of the text, four numbers each. */
    private static final int PARTS = 4;
    private static final int KIND = 0;
    private static final int CASE_CELL = 1, DEPTH = 2, FROM_YEAR = 3;
    private static final int IRON = 1, STROKES = 2, MAID_CELL = 3;

    /** A cell and those next to it are five at most; HERE is the cell itself among them. */
    private static final int WAYS = 5;
    private static final int HERE = 2;

    private static final int NOWHERE = -1;

    private static final String FIRST_TEXT =
            "r000000;r003000;r010020;c0,7,3,0;c1,12,4,1;c2,9,5,2;c3,16,2,0;c1,2,6,4;m0,4,3,0;m1,3,4,8;m2,6,2,17;";

    private final Letters text = new Letters();
    private final Reader reader = new Reader();
    private final Plan plan = new Plan();
    private final Plan otherPlan = new Plan();
    private final Standing now = new Standing();
    private final Standing trial = new Standing();
    private final Pile undoable = new Pile(MOST_UNDONE);
    private final Pile kept = new Pile(MOST_KEPT);
    private final Sightings seen = new Sightings();
    private final Smoothing smoothing = new Smoothing();
    private final Rounds rounds = new Rounds();
    private final Seating seating = new Seating();

    public RemorseWall() {
        for (int i = 0; i < FIRST_TEXT.length(); i++) {
            text.add(FIRST_TEXT.charAt(i));
        }
        reader.read(text, plan);
        plan.layOut(now);
        text.clear();
    }

    // ---- walls.

    public int write(int letter) {
        if (letter < 32 || letter > 126) {
            return BAD;
        }
        if (text.isFull()) {
            return FULL;
        }
        text.add((char) letter);
        return text.size();
    }

    public int wipe() {
        int was = text.size();
        text.clear();
        return was;
    }

    public int fault() {
        return reader.read(text, otherPlan);
    }

    public int lay() {
        if (reader.read(text, otherPlan) != NONE || otherPlan.cellCount() == 0) {
            return NO;
        }
        plan.copyFrom(otherPlan);
        plan.layOut(now);
        seen.clear();
        undoable.clear();
        kept.clear();
        return plan.cellCount();
    }

    public int high(int x) {
        return isCell(x) ? now.highAt(x) : BAD;
    }

    public int matter(int c, int what) {
        if (!isCase(c)) {
            return BAD;
        }
        switch (what) {
            case 0:
            case 1:
            case 2:
            case 3:
                return plan.ofCase(c, what);
            case 4:
                return now.isPardoned(c) ? 1 : 0;
            case 5:
                return wouldRaise(c);
            default:
                return BAD;
        }
    }

    public int maid(int m, int what) {
        if (!isMaid(m)) {
            return BAD;
        }
        int there = now.highAt(now.placeOf(m));
        switch (what) {
            case 0:
            case 1:
                return plan.ofMaid(m, what);
            case 2:
                return now.leftTo(m);
            case 3:
                return now.placeOf(m);
            case 4:
                return Math.min(plan.takes(m, there), there);
            default:
                return BAD;
        }
    }

    // ---- acts.

    public int stroke(int m, int x) {
        if (!isMaid(m) || !isCell(x)) {
            return BAD;
        }
        if (!plan.canStrike(now, m, x)) {
            return NO;
        }
        undoable.push(now);
        plan.strike(now, m, x);
        return now.highAt(x);
    }

    public int pass(int n) {
        if (n < 1 || n > MOST_YEARS) {
            return BAD;
        }
        if (now.yearIs() + n > LAST_YEAR) {
            return NO;
        }
        undoable.push(now);
        plan.yearsGoBy(now, n);
        return now.yearIs();
    }

    public int pardon(int c) {
        if (!isCase(c)) {
            return BAD;
        }
        if (now.isPardoned(c)) {
            return NO;
        }
        undoable.push(now);
        now.letOff(c);
        return casesNotPardoned();
    }

    public int undo() {
        if (undoable.size() == 0) {
            return NO;
        }
        undoable.popInto(now);
        return undoable.size();
    }

    // ---- what comes, what is best.

    public int behind(int n, int x) {
        if (n < 0 || n > MOST_YEARS || !isCell(x)) {
            return BAD;
        }
        trial.copyFrom(now);
        plan.yearsGoBy(trial, n);
        return trial.highAt(x);
    }

    public int hollowed(int x) {
        if (!isCell(x)) {
            return BAD;
        }
        trial.copyFrom(now);
        for (int n = 0; n <= MOST_YEARS; n++) {
            if (isHollow(trial.highAt(x))) {
                return n;
            }
            plan.yearsGoBy(trial, 1);
        }
        return NONE;
    }

    public int smooth(int m, int x, int k) {
        if (!isMaid(m) || !isCell(x) || k < -1) {
            return BAD;
        }
        int fewest = smoothing.fewest(plan, now, m, x);
        if (fewest == NONE || k == -1) {
            return fewest;
        }
        return k < fewest ? smoothing.cellOfStroke(k) : NONE;
    }

    public int round(int m, int n, int k) {
        if (!isMaid(m) || n < 1 || n > MOST_ROUND || k < -1 || k >= MOST_ROUND) {
            return BAD;
        }
        if (n > now.leftTo(m)) {
            return NO;
        }
        if (k >= n) {
            return NONE;
        }
        trial.copyFrom(now);
        int least = rounds.least(plan, trial, m, n);
        return k == -1 ? least : rounds.cellOfStroke(k);
    }

    public int chairs(int h) {
        if (h < 0 || h > TOP) {
            return BAD;
        }
        return seating.most(plan, now, h);
    }

    public int pardons(int n, int what) {
        if (n < 1 || n > MOST_YEARS || what < 0 || what > 1) {
            return BAD;
        }
        int best = NONE;
        int least = NONE;
        for (int c = 0; c < plan.caseCount(); c++) {
            if (now.isPardoned(c)) {
                continue;
            }
            trial.copyFrom(now);
            trial.letOff(c);
            plan.yearsGoBy(trial, n);
            if (best == NONE || trial.sum() < least) {
                best = c;
                least = trial.sum();
            }
        }
        return what == 0 ? best : least;
    }

    // ---- what was on his mind.

    public int see(int x, int h) {
        if (!isCell(x) || h < 0 || h > TOP) {
            return BAD;
        }
        if (seen.isFull()) {
            return FULL;
        }
        seen.add(x, h);
        return seen.size();
    }

    public int forget() {
        int was = seen.size();
        seen.clear();
        return was;
    }

    public int mind(int n, int what) {
        if (n < 1 || n > MOST_YEARS || what < 0 || what > 1) {
            return BAD;
        }
        int sets = 1 << plan.caseCount();
        int howMany = 0;
        int lowest = NONE;
        for (int set = 0; set < sets; set++) {
            if (wouldBeSeen(plan, set, n)) {
                howMany++;
                lowest = lowest == NONE ? set : lowest;
            }
        }
        return what == 0 ? howMany : lowest;
    }

    public int deep(int c, int n, int what) {
        if (!isCase(c) || n < 1 || n > MOST_YEARS || what < 0 || what > 1) {
            return BAD;
        }
        int all = (1 << plan.caseCount()) - 1;
        int howMany = 0;
        int least = NONE;
        otherPlan.copyFrom(plan);
        for (int depth = 1; depth <= MOST_DEPTH; depth++) {
            otherPlan.setDepth(c, depth);
            if (wouldBeSeen(otherPlan, all, n)) {
                howMany++;
                least = least == NONE ? depth : least;
            }
        }
        return what == 0 ? howMany : least;
    }

    // ---- slips, evenings.

    public int slip(int m, int x, int n, int t, int part) {
        if (!isMaid(m) || !isCell(x) || part < 0 || part > 1) {
            return BAD;
        }
        if (n < 0 || n > MOST_SLIPPING || t < 0 || t > TENTHS) {
            return BAD;
        }
        int above = smoothOutcomes(plan, m, now.highAt(x), n, t);
        int below = 1;
        for (int i = 0; i < n; i++) {
            below *= TENTHS;
        }
        int shared = commonDivisor(below, above);
        if (shared < 1) {
            return BAD;
        }
        return part == 0 ? above / shared : below / shared;
    }

    public int evening(int z, int n, int what) {
        if (z < 0 || z > LAST_EVENING || n < 1 || n > MOST_DRAWS || what < 0 || what > 1) {
            return BAD;
        }
        trial.copyFrom(now);
        for (int k = 0; k < n; k++) {
            goOnByDraw(trial, drawOf(z, k));
        }
        return what == 0 ? trial.sum() : trial.hollowCells();
    }

    public int keep() {
        if (kept.isFull()) {
            return FULL;
        }
        kept.push(now);
        return kept.size();
    }

    public int back() {
        if (kept.size() == 0) {
            return NO;
        }
        kept.popInto(now);
        undoable.clear();
        return kept.size();
    }

    public int count(int what) {
        switch (what) {
            case 0:
                return plan.cellCount();
            case 1:
                return plan.cellsInRow();
            case 2:
                return plan.caseCount();
            case 3:
                return plan.maidCount();
            case 4:
                return now.yearIs();
            case 5:
                return now.sum();
            case 6:
                return now.hollowCells();
            case 7:
                return casesNotPardoned();
            case 8:
                return now.leftToAll();
            case 9:
                return seen.size();
            case 10:
                return undoable.size();
            case 11:
                return kept.size();
            case 12:
                return text.size();
            default:
                return BAD;
        }
    }

    // ---- behind the face.

    private boolean isCell(int x) {
        return x >= 0 && x < plan.cellCount();
    }

    private boolean isCase(int c) {
        return c >= 0 && c < plan.caseCount();
    }

    private boolean isMaid(int m) {
        return m >= 0 && m < plan.maidCount();
    }

    private static boolean isHollow(int h) {
        return h >= HOLLOW_FROM;
    }

    private int casesNotPardoned() {
        return plan.caseCount() - now.pardonedCases();
    }

    private int wouldRaise(int c) {
        if (now.isPardoned(c)) {
            return 0;
        }
        int there = now.highAt(plan.ofCase(c, CASE_CELL));
        return Math.min(plan.raisesOwn(c, there), TOP - there);
    }

    /** Whether all that is seen would be so, had there been just the cases of the set. */
    private boolean wouldBeSeen(Plan told, int set, int n) {
        told.layOut(trial);
        for (int c = 0; c < told.caseCount(); c++) {
            if ((set >> c & 1) == 0) {
                trial.letOff(c);
            }
        }
        told.yearsGoBy(trial, n);
        return seen.agreeWith(trial);
    }

    /** Of 10 to the power of n outcomes, all alike likely: those that leave the cell smooth. */
    private static int smoothOutcomes(Plan told, int m, int h, int n, int t) {
        if (n <= 0) {
            return h == 0 ? 1 : 0;
        }
        int lower = Math.max(0, h - told.takes(m, h));
        return t * smoothOutcomes(told, m, h, n - 1, t)
                + (TENTHS - t) * smoothOutcomes(told, m, lower, n - 1, t);
    }

    private static int commonDivisor(int a, int b) {
        int larger = a;
        int smaller = b;
        // Each step but the first at least halves one of the two, so 32 bits need 64 at most.
        for (int i = 0; i < 64 && smaller != 0; i++) {
            int rest = larger % smaller;
            larger = smaller;
            smaller = rest;
        }
        return larger;
    }

    private static int drawOf(int z, int k) {
        long x = 7919L * z + 6151L * k + 1;
        return (int) (x * x % 65521);
    }

    private void goOnByDraw(Standing s, int draw) {
        int which = draw / 8;
        switch (draw % 8) {
            case 7:
                if (s.yearIs() < LAST_YEAR) {
                    plan.yearsGoBy(s, 1);
                }
                break;
            case 6:
                if (plan.caseCount() > 0) {
                    s.letOff(which % plan.caseCount());
                }
                break;
            default:
                if (plan.maidCount() > 0 && plan.cellCount() > 0) {
                    strikeIfShe(s, which % plan.maidCount(), draw / 64 % plan.cellCount());
                }
        }
    }

    private void strikeIfShe(Standing s, int m, int x) {
        if (plan.canStrike(s, m, x)) {
            plan.strike(s, m, x);
        }
    }

    /** The text: letters, one behind the other. */
    private static final class Letters {
        private final char[] letters = new char[MOST_LETTERS];
        private int size = 0;

        int size() {
            return size;
        }

        boolean isFull() {
            return size >= letters.length;
        }

        void add(char letter) {
            if (size >= 0 && size < letters.length) {
                letters[size] = letter;
                size++;
            }
        }

        void clear() {
            size = 0;
        }

        /** The letter at a place; behind the last one a sign that no item has in it. */
        char at(int place) {
            return place >= 0 && place < size && place < letters.length ? letters[place] : 0;
        }

        int figureAt(int place) {
            char letter = at(place);
            return letter >= '0' && letter <= '9' ? letter - '0' : NONE;
        }
    }

    /** Reads a text, item by item, into a plan. */
    private static final class Reader {
        private final int[] numbers = new int[PARTS];
        private final int[] row = new int[MOST_WIDTH];
        private int place = 0;

        /** Where the first item is that is not as it has to be, or NONE. */
        int read(Letters text, Plan plan) {
            plan.clear();
            place = 0;
            for (int item = 0; item < MOST_LETTERS && place < text.size(); item++) {
                int start = place;
                if (!readItem(text, plan)) {
                    return start;
                }
            }
            return NONE;
        }

        private boolean readItem(Letters text, Plan plan) {
            char letter = text.at(place);
            place++;
            if (letter == 'r') {
                return readRow(text, plan);
            }
            if (letter == 'c') {
                return readNumbers(text) && plan.addCase(numbers);
            }
            return letter == 'm' && readNumbers(text) && plan.addMaid(numbers);
        }

        private boolean readRow(Letters text, Plan plan) {
            int width = 0;
            for (int i = 0; i < row.length && text.figureAt(place) != NONE; i++) {
                row[i] = text.figureAt(place);
                width++;
                place++;
            }
            return skip(text, ';') && plan.addRow(row, width);
        }

        private boolean readNumbers(Letters text) {
            for (int i = 0; i < numbers.length; i++) {
                int first = text.figureAt(place);
                if (first == NONE) {
                    return false;
                }
                place++;
                int second = text.figureAt(place);
                if (second == NONE) {
                    numbers[i] = first;
                } else {
                    numbers[i] = 10 * first + second;
                    place++;
                }
                if (!skip(text, i == numbers.length - 1 ? ';' : ',')) {
                    return false;
                }
            }
            return true;
        }

        private boolean skip(Letters text, char sign) {
            if (text.at(place) != sign) {
                return false;
            }
            place++;
            return true;
        }
    }

    /** What a text tells, and the rules by which what stands goes on from there. */
    private static final class Plan {
        private final int[] firstHigh = new int[MOST_CELLS];
        private final int[] cases = new int[MOST_CASES * PARTS];
        private final int[] maids = new int[MOST_MAIDS * PARTS];
        private int width = 0;
        private int rows = 0;
        private int caseCount = 0;
        private int maidCount = 0;

        void clear() {
            Arrays.fill(firstHigh, 0);
            width = 0;
            rows = 0;
            caseCount = 0;
            maidCount = 0;
        }

        void copyFrom(Plan other) {
            System.arraycopy(other.firstHigh, 0, firstHigh, 0, MOST_CELLS);
            System.arraycopy(other.cases, 0, cases, 0, MOST_CASES * PARTS);
            System.arraycopy(other.maids, 0, maids, 0, MOST_MAIDS * PARTS);
            width = other.width;
            rows = other.rows;
            caseCount = other.caseCount;
            maidCount = other.maidCount;
        }

        int cellCount() {
            return rows * width;
        }

        int cellsInRow() {
            return width;
        }

        int rowCount() {
            return rows;
        }

        int caseCount() {
            return caseCount;
        }

        int maidCount() {
            return maidCount;
        }

        int ofCase(int c, int part) {
            int i = c * PARTS + part;
            return i >= 0 && i < cases.length ? cases[i] : 0;
        }

        int ofMaid(int m, int part) {
            int i = m * PARTS + part;
            return i >= 0 && i < maids.length ? maids[i] : 0;
        }

        void setDepth(int c, int depth) {
            int i = c * PARTS + DEPTH;
            if (i >= 0 && i < cases.length) {
                cases[i] = depth;
            }
        }

        boolean addRow(int[] row, int size) {
            if (size < 1 || size > row.length || size > MOST_WIDTH || rows >= MOST_ROWS) {
                return false;
            }
            if (rows > 0 && size != width) {
                return false;
            }
            int start = cellCount();
            for (int i = 0; i < size; i++) {
                if (start + i < firstHigh.length) {
                    firstHigh[start + i] = row[i];
                }
            }
            width = size;
            rows++;
            return true;
        }

        boolean addCase(int[] told) {
            if (caseCount >= MOST_CASES || told.length != PARTS) {
                return false;
            }
            if (told[KIND] > LAST_KIND || told[CASE_CELL] >= cellCount()
                    || told[DEPTH] < 1 || told[DEPTH] > MOST_DEPTH
                    || told[FROM_YEAR] >= MOST_YEARS) {
                return false;
            }
            System.arraycopy(told, 0, cases, caseCount * PARTS, PARTS);
            caseCount++;
            return true;
        }

        boolean addMaid(int[] told) {
            if (maidCount >= MOST_MAIDS || told.length != PARTS) {
                return false;
            }
            if (told[KIND] > LAST_KIND || told[MAID_CELL] >= cellCount()
                    || told[IRON] < 1 || told[IRON] > MOST_IRON
                    || told[STROKES] < 1 || told[STROKES] > MOST_STROKES) {
                return false;
            }
            System.arraycopy(told, 0, maids, maidCount * PARTS, PARTS);
            maidCount++;
            return true;
        }

        void layOut(Standing s) {
            s.clear();
            for (int x = 0; x < firstHigh.length; x++) {
                s.setHigh(x, firstHigh[x]);
            }
            for (int m = 0; m < maidCount; m++) {
                s.setPlace(m, ofMaid(m, MAID_CELL));
            }
            giveStrokes(s);
        }

        /** The cell behind x in its row. */
        int after(int x) {
            return wayFrom(x, HERE + 1);
        }

        /**
         * The cells a step can end in from x, by rising number for rising ways: the one above,
         * the one ahead in the row, x, the one behind it in the row, the one below.
         */
        int wayFrom(int x, int way) {
            int cells = rows * width;
            if (x < 0 || x >= cells || width < 1) {
                return NOWHERE;
            }
            switch (way) {
                case 0:
                    return x >= width ? x - width : NOWHERE;
                case 1:
                    return x % width > 0 ? x - 1 : NOWHERE;
                case HERE:
                    return x;
                case 3:
                    return x % width < width - 1 ? x + 1 : NOWHERE;
                case 4:
                    return x + width < cells ? x + width : NOWHERE;
                default:
                    return NOWHERE;
            }
        }

        private boolean reaches(int from, int x) {
            for (int way = 0; way < WAYS; way++) {
                if (wayFrom(from, way) == x) {
                    return true;
                }
            }
            return false;
        }

        /** By how much a case raises its own cell, that stands h high: without the top. */
        int raisesOwn(int c, int h) {
            int depth = ofCase(c, DEPTH);
            switch (ofCase(c, KIND)) {
                case FAIR:
                    return 0;
                case DOOR:
                    return isHollow(h) ? 2 * depth : depth;
                default:
                    return depth;
            }
        }

        private void comeUp(Standing s, int c) {
            int own = ofCase(c, CASE_CELL);
            int half = ofCase(c, DEPTH) / 2;
            s.raise(own, raisesOwn(c, s.highAt(own)));
            if (ofCase(c, KIND) == VINE) {
                s.raise(after(own), half);
            } else if (ofCase(c, KIND) == FAIR) {
                for (int way = 0; way < WAYS; way++) {
                    if (way != HERE) {
                        s.raise(wayFrom(own, way), half + 1);
                    }
                }
            }
        }

        void yearsGoBy(Standing s, int n) {
            for (int i = 0; i < n; i++) {
                for (int c = 0; c < caseCount; c++) {
                    if (ofCase(c, FROM_YEAR) <= s.yearIs() && !s.isPardoned(c)) {
                        comeUp(s, c);
                    }
                }
                giveStrokes(s);
                s.nextYear();
            }
        }

        private void giveStrokes(Standing s) {
            for (int m = 0; m < maidCount; m++) {
                s.setLeft(m, ofMaid(m, STROKES));
            }
        }

        /** What a maid takes off a cell that stands h high: perhaps more than there is. */
        int takes(int m, int h) {
            int iron = ofMaid(m, IRON);
            switch (ofMaid(m, KIND)) {
                case GENTLE:
                    return 1 + iron / 2;
                case HASTY:
                    return isHollow(h) ? 0 : 2 * iron;
                default:
                    return iron;
            }
        }

        int takesAfter(int m) {
            return ofMaid(m, KIND) == THOROUGH ? ofMaid(m, IRON) / 2 : 0;
        }

        boolean canStrike(Standing s, int m, int x) {
            return s.leftTo(m) > 0 && reaches(s.placeOf(m), x);
        }

        void strike(Standing s, int m, int x) {
            s.lower(x, takes(m, s.highAt(x)));
            s.lower(after(x), takesAfter(m));
            s.setLeft(m, s.leftTo(m) - 1);
            s.setPlace(m, x);
        }
    }

    /** How everything stands: what acts change, what is kept and what comes back. */
    private static final class Standing {
        // Cells behind the last one of the wall stay 0, so sums may run over all of them.
        private final int[] high = new int[MOST_CELLS];
        private final int[] left = new int[MOST_MAIDS];
        private final int[] place = new int[MOST_MAIDS];
        private int pardoned = 0;
        private int year = 0;

        void clear() {
            Arrays.fill(high, 0);
            Arrays.fill(left, 0);
            Arrays.fill(place, 0);
            pardoned = 0;
            year = 0;
        }

        void copyFrom(Standing other) {
            System.arraycopy(other.high, 0, high, 0, MOST_CELLS);
            System.arraycopy(other.left, 0, left, 0, MOST_MAIDS);
            System.arraycopy(other.place, 0, place, 0, MOST_MAIDS);
            pardoned = other.pardoned;
            year = other.year;
        }

        int highAt(int x) {
            return x >= 0 && x < high.length ? high[x] : 0;
        }

        void setHigh(int x, int h) {
            if (x >= 0 && x < high.length) {
                high[x] = Math.max(0, Math.min(h, TOP));
            }
        }

        void raise(int x, int by) {
            setHigh(x, highAt(x) + by);
        }

        void lower(int x, int by) {
            setHigh(x, highAt(x) - by);
        }

        int sum() {
            int sum = 0;
            for (int x = 0; x < high.length; x++) {
                sum += high[x];
            }
            return sum;
        }

        int hollowCells() {
            int howMany = 0;
            for (int x = 0; x < high.length; x++) {
                howMany += isHollow(high[x]) ? 1 : 0;
            }
            return howMany;
        }

        int leftTo(int m) {
            return m >= 0 && m < left.length ? left[m] : 0;
        }

        void setLeft(int m, int strokes) {
            if (m >= 0 && m < left.length) {
                left[m] = strokes;
            }
        }

        int leftToAll() {
            int sum = 0;
            for (int m = 0; m < left.length; m++) {
                sum += left[m];
            }
            return sum;
        }

        int placeOf(int m) {
            return m >= 0 && m < place.length ? place[m] : NOWHERE;
        }

        void setPlace(int m, int x) {
            if (m >= 0 && m < place.length) {
                place[m] = x;
            }
        }

        boolean isPardoned(int c) {
            return (pardoned >> c & 1) == 1;
        }

        void letOff(int c) {
            pardoned |= 1 << c;
        }

        int pardonedCases() {
            return Integer.bitCount(pardoned);
        }

        int yearIs() {
            return year;
        }

        void nextYear() {
            year++;
        }
    }

    /** The latest of what is put on it; of a full pile the oldest goes. */
    private static final class Pile {
        private final Standing[] held;
        private int size = 0;

        Pile(int most) {
            held = new Standing[Math.max(1, most)];
            for (int i = 0; i < held.length; i++) {
                held[i] = new Standing();
            }
        }

        int size() {
            return size;
        }

        boolean isFull() {
            return size >= held.length;
        }

        void clear() {
            size = 0;
        }

        void push(Standing s) {
            if (isFull()) {
                dropOldest();
            }
            Standing top = at(size);
            if (top != null) {
                top.copyFrom(s);
                size++;
            }
        }

        void popInto(Standing s) {
            Standing top = at(size - 1);
            if (top != null) {
                s.copyFrom(top);
                size--;
            }
        }

        private Standing at(int i) {
            return i >= 0 && i < held.length ? held[i] : null;
        }

        /** The oldest one's room goes to the end, so that it is used again. */
        private void dropOldest() {
            Standing oldest = held[0];
            for (int i = 1; i < held.length; i++) {
                held[i - 1] = held[i];
            }
            held[held.length - 1] = oldest;
            size = held.length - 1;
        }
    }

    /** That cells were seen to stand so high. */
    private static final class Sightings {
        private final int[] cells = new int[MOST_SEEN];
        private final int[] highs = new int[MOST_SEEN];
        private int size = 0;

        int size() {
            return size;
        }

        boolean isFull() {
            return size >= MOST_SEEN;
        }

        void clear() {
            size = 0;
        }

        void add(int x, int h) {
            if (size >= 0 && size < MOST_SEEN) {
                cells[size] = x;
                highs[size] = h;
                size++;
            }
        }

        boolean agreeWith(Standing s) {
            for (int i = 0; i < size && i < MOST_SEEN; i++) {
                if (s.highAt(cells[i]) != highs[i]) {
                    return false;
                }
            }
            return true;
        }
    }

    /**
     * The fewest strokes of one maid by which one cell is smooth. What else stands on the wall
     * does not bear on it, so where she is and how high that cell stands is all there is to know.
     */
    private static final class Smoothing {
        private static final int HEIGHTS = TOP + 1;

        private final int[] fewest = new int[MOST_CELLS * HEIGHTS];
        private final int[] row = new int[MOST_STROKES];

        /** How many strokes, no more than she has left, or NONE; the row of them stands then. */
        int fewest(Plan plan, Standing s, int m, int x) {
            int place = s.placeOf(m);
            int h = s.highAt(x);
            markSmooth();
            for (int n = 1; n <= s.leftTo(m) && fewestFrom(place, h) == NONE; n++) {
                findStrokes(plan, m, x, h, n);
            }
            tellRow(plan, m, x, place, h);
            return fewestFrom(place, h);
        }

        int cellOfStroke(int k) {
            return k >= 0 && k < row.length ? row[k] : NONE;
        }

        private int fewestFrom(int place, int h) {
            int i = place * HEIGHTS + h;
            return i >= 0 && i < fewest.length ? fewest[i] : NONE;
        }

        private void markSmooth() {
            for (int i = 0; i < fewest.length; i++) {
                fewest[i] = i % HEIGHTS == 0 ? 0 : NONE;
            }
        }

        /** Finds from where, and from how high, it takes n strokes, fewer being found. */
        private void findStrokes(Plan plan, int m, int x, int highest, int n) {
            for (int place = 0; place < plan.cellCount(); place++) {
                for (int h = 1; h <= highest; h++) {
                    int i = place * HEIGHTS + h;
                    if (i < fewest.length && fewest[i] == NONE
                            && firstStroke(plan, m, x, place, h, n) != NOWHERE) {
                        fewest[i] = n;
                    }
                }
            }
        }

        /** The lowest cell for the first of n strokes. */
        private int firstStroke(Plan plan, int m, int x, int place, int h, int n) {
            for (int way = 0; way < WAYS; way++) {
                int cell = plan.wayFrom(place, way);
                if (cell != NOWHERE && fewestFrom(cell, lowered(plan, m, x, h, cell)) == n - 1) {
                    return cell;
                }
            }
            return NOWHERE;
        }

        /** How high x, that is h high, is behind a stroke at the cell. */
        private static int lowered(Plan plan, int m, int x, int h, int cell) {
            if (cell == x) {
                return Math.max(0, h - plan.takes(m, h));
            }
            return plan.after(cell) == x ? Math.max(0, h - plan.takesAfter(m)) : h;
        }

        private void tellRow(Plan plan, int m, int x, int from, int height) {
            int place = from;
            int h = height;
            int strokes = fewestFrom(from, height);
            for (int k = 0; k < strokes && k < row.length; k++) {
                row[k] = firstStroke(plan, m, x, place, h, strokes - k);
                h = lowered(plan, m, x, h, row[k]);
                place = row[k];
            }
        }
    }

    /** Tries all rows of strokes of one maid for the one that leaves least. */
    private static final class Rounds {
        private final int[] trying = new int[MOST_ROUND];
        private final int[] best = new int[MOST_ROUND];
        private int least = NONE;

        int least(Plan plan, Standing s, int m, int n) {
            least = NONE;
            tryFrom(this, plan, s, m, 0, n);
            return least;
        }

        int cellOfStroke(int k) {
            return k >= 0 && k < best.length ? best[k] : NONE;
        }

        /** Rows come first things first, so a later one has to leave less to be better. */
        private static void tryFrom(Rounds r, Plan plan, Standing s, int m, int given, int n) {
            if (given < 0 || given >= n || given >= r.trying.length) {
                r.noteIfBetter(s.sum());
                return;
            }
            int from = s.placeOf(m);
            int left = s.leftTo(m);
            for (int way = 0; way < WAYS; way++) {
                int cell = plan.wayFrom(from, way);
                if (cell != NOWHERE) {
                    int after = plan.after(cell);
                    int high = s.highAt(cell);
                    int highAfter = s.highAt(after);
                    r.trying[given] = cell;
                    plan.strike(s, m, cell);
                    tryFrom(r, plan, s, m, given + 1, n);
                    s.setHigh(cell, high);
                    s.setHigh(after, highAfter);
                    s.setPlace(m, from);
                    s.setLeft(m, left);
                }
            }
        }

        private void noteIfBetter(int sum) {
            if (least == NONE || sum < least) {
                least = sum;
                System.arraycopy(trying, 0, best, 0, MOST_ROUND);
            }
        }
    }

    /**
     * The most chairs apart, column by column: for every way to fill a column, the most chairs up
     * to there. A column has four cells at most, so its ways are fewer than a row's.
     */
    private static final class Seating {
        private static final int FILLINGS = 1 << MOST_ROWS;
        private static final int CANNOT = -1;

        private final int[] before = new int[FILLINGS];
        private final int[] upToHere = new int[FILLINGS];

        int most(Plan plan, Standing s, int h) {
            Arrays.fill(before, CANNOT);
            before[0] = 0;
            for (int column = 0; column < plan.cellsInRow(); column++) {
                int free = freeCells(plan, s, column, h);
                for (int filling = 0; filling < FILLINGS; filling++) {
                    boolean can = (filling & ~free) == 0 && (filling & filling >> 1) == 0;
                    upToHere[filling] = can ? mostWith(filling) : CANNOT;
                }
                System.arraycopy(upToHere, 0, before, 0, FILLINGS);
            }
            int most = 0;
            for (int filling = 0; filling < FILLINGS; filling++) {
                most = Math.max(most, before[filling]);
            }
            return most;
        }

        private static int freeCells(Plan plan, Standing s, int column, int h) {
            int free = 0;
            for (int row = 0; row < plan.rowCount(); row++) {
                if (s.highAt(row * plan.cellsInRow() + column) <= h) {
                    free |= 1 << row;
                }
            }
            return free;
        }

        private int mostWith(int filling) {
            int most = 0;
            for (int last = 0; last < FILLINGS; last++) {
                if ((last & filling) == 0) {
                    most = Math.max(most, before[last]);
                }
            }
            return most + Integer.bitCount(filling);
        }
    }
}
