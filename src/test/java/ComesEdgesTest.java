/** The edges of Terms 3 and of promises 13 to 18: what comes, and what is best. */
public final class ComesEdgesTest {
    private static final int BAD = Edges.BAD, NO = Edges.NO, NONE = Edges.NONE;

    private final Edges e;

    private ComesEdgesTest(Edges e) {
        this.e = e;
    }

    public static void main(String[] args) {
        Edges e = new Edges("ComesEdgesTest");
        all(e);
        e.end();
    }

    static void all(Edges e) {
        ComesEdgesTest t = new ComesEdgesTest(e);
        t.nothingElse();
        t.askedAgain();
        t.behindYears();
        t.hollowedYears();
        t.asManyAsLeft();
        t.fewest();
        t.fewestByKind();
        t.firstOfSeveral();
        t.roundOf();
        t.leastStands();
        t.firstOfSeveralRounds();
        t.chairsFor();
        t.chairsApart();
        t.pardonFor();
        t.pardonOfSeveral();
        t.behind();
        t.hollowed();
        t.hollowedRefused();
        t.smooth();
        t.smoothNone();
        t.smoothBad();
        t.round();
        t.roundBad();
        t.roundNo();
        t.chairs();
        t.pardons();
        t.pardonsRefused();
    }

    private void smooths(RemorseWall x, int m, int cell, int... row) {
        e.due("smooth(" + m + ", " + cell + ", -1)", x.smooth(m, cell, -1), row.length);
        for (int k = 0; k < row.length; k++) {
            e.due("smooth(" + m + ", " + cell + ", " + k + ")", x.smooth(m, cell, k), row[k]);
        }
        for (int k = row.length; k <= 10; k++) {
            e.due("smooth(" + m + ", " + cell + ", " + k + ")", x.smooth(m, cell, k), NONE);
        }
    }

    private void cannotSmooth(RemorseWall x, int m, int cell) {
        for (int k = -1; k <= 9; k++) {
            e.due("smooth(" + m + ", " + cell + ", " + k + ")", x.smooth(m, cell, k), NONE);
        }
    }

    private void rounds(RemorseWall x, int m, int sum, int... row) {
        int n = row.length;
        e.due("round(" + m + ", " + n + ", -1)", x.round(m, n, -1), sum);
        for (int k = 0; k <= 4; k++) {
            e.due("round(" + m + ", " + n + ", " + k + ")", x.round(m, n, k), k < n ? row[k] : NONE);
        }
    }

    // ---- Terms 3.

    private void nothingElse() {
        e.sentence("Terms 3", "Nothing else being done: ");
        e.leaves("behind(20, 2)", Scenes::lived, x -> x.behind(20, 2), 40);
        e.leaves("hollowed(0)", Scenes::lived, x -> x.hollowed(0), NONE);
        e.leaves("smooth(0, 1, -1)", Scenes::lived, x -> x.smooth(0, 1, -1), 4);
        e.leaves("smooth(1, 5, 0)", Scenes::lived, x -> x.smooth(1, 5, 0), 5);
        e.leaves("round(0, 1, -1)", Scenes::lived, x -> x.round(0, 1, -1), 43);
        e.leaves("round(1, 2, 1)", Scenes::lived, x -> x.round(1, 2, 1), 5);
        e.leaves("chairs(5)", Scenes::lived, x -> x.chairs(5), 2);
        e.leaves("pardons(1, 1)", Scenes::lived, x -> x.pardons(1, 1), 50);
    }

    /** One object that is asked everything, there and back again, against new ones that are asked once. */
    private void askedAgain() {
        e.sentence("Terms 3", "Nothing else being done: ");
        Edges.Call[] asked = {x -> x.behind(7, 1), x -> x.hollowed(5), x -> x.smooth(0, 1, 3), x -> x.smooth(0, 3, 0),
            x -> x.smooth(0, 4, -1), x -> x.smooth(1, 4, 0), x -> x.smooth(1, 5, 1), x -> x.smooth(0, 2, -1),
            x -> x.round(0, 4, 3), x -> x.round(0, 1, 0), x -> x.round(1, 2, -1), x -> x.round(0, 3, -1),
            x -> x.chairs(40), x -> x.chairs(11), x -> x.chairs(5), x -> x.chairs(0), x -> x.chairs(12),
            x -> x.pardons(20, 0), x -> x.pardons(1, 1), x -> x.mind(2, 0), x -> x.mind(1, 1), x -> x.deep(0, 1, 1),
            x -> x.deep(2, 20, 0), x -> x.slip(0, 1, 4, 5, 1), x -> x.slip(1, 5, 2, 3, 0), x -> x.evening(4, 9, 0),
            x -> x.evening(531, 60, 1), x -> x.matter(2, 5), x -> x.maid(0, 4), x -> x.fault(), x -> x.count(5)};
        RemorseWall one = Scenes.lived();
        for (int turn = 0; turn < 2 * asked.length; turn++) {
            int i = turn < asked.length ? turn : 2 * asked.length - 1 - turn;
            e.due("question " + i + " asked as number " + turn, asked[i].on(one), asked[i].on(Scenes.lived()));
        }
        e.same("behind all of them", one, Scenes.lived());
    }

    private void behindYears() {
        e.sentence("Terms 3", "BEHIND n (0 to 20) YEARS how HIGH a CELL is.");
        RemorseWall x = Due.laid("r000;c0,0,1,0;c0,1,1,19;c0,2,9,0;");
        for (int n = 0; n <= 20; n++) {
            e.due("behind(" + n + ", 0)", x.behind(n, 0), n);
            e.due("behind(" + n + ", 1)", x.behind(n, 1), n == 20 ? 1 : 0);
            e.due("behind(" + n + ", 2)", x.behind(n, 2), n < 5 ? 9 * n : 40);
        }
        x.pass(19);
        e.due("from year 19 on, behind(0, 1)", x.behind(0, 1), 0);
        e.due("from year 19 on, behind(1, 1)", x.behind(1, 1), 1);
        e.due("from year 19 on, behind(20, 1)", x.behind(20, 1), 20);
        // As NOTES.md tells: only pass() and an evening stop at 999.
        RemorseWall late = Scenes.inYear(998, "r0;c0,0,1,0;m0,9,9,0;");
        late.stroke(0, 0);
        e.due("in year 998, behind(0, 0)", late.behind(0, 0), 31);
        e.due("in year 998, behind(1, 0)", late.behind(1, 0), 32);
        e.due("in year 998, behind(2, 0)", late.behind(2, 0), 33);
    }

    private void hollowedYears() {
        e.sentence("Terms 3", "HOLLOWED: behind how many YEARS (0 to 20) a CELL is HOLLOW first; none.");
        for (int from = 0; from <= 19; from++) {
            e.due("12 by one from " + from + " on", Due.laid("r9;c0,0,3," + from + ";").hollowed(0), from + 1);
            int twoYears = from <= 18 ? from + 2 : NONE;
            e.due("11, then 13 by one from " + from + " on", Due.laid("r9;c0,0,2," + from + ";").hollowed(0), twoYears);
        }
        e.due("11 behind 20", Due.laid("r9;c0,0,1,18;").hollowed(0), NONE);
        e.due("12 behind 20", Due.laid("r9;c0,0,1,17;").hollowed(0), 20);
        for (int h = 0; h <= 40; h++) {
            e.due("one that stands " + h, Scenes.stands(h, ";", "").hollowed(0), h >= 12 ? 0 : NONE);
        }
        RemorseWall x = Due.laid("r9;c0,0,3,19;");
        x.pass(19);
        e.due("a year ahead of it", x.hollowed(0), 1);
        x.pass(1);
        e.due("then", x.hollowed(0), 0);
        RemorseWall y = Due.laid("r0;c0,0,1,9;");
        e.due("12 behind 21", y.hollowed(0), NONE);
        y.pass(1);
        e.due("a year later it is 20", y.hollowed(0), 20);
        y.pardon(0);
        e.due("pardoned", y.hollowed(0), NONE);
    }

    private void asManyAsLeft() {
        e.sentence("Terms 3", "By STROKES of one MAID now, as many as she has left at most: ");
        for (int strokes = 1; strokes <= 9; strokes++) {
            String maid = ";m0,1," + strokes + ",0;";
            smooths(Due.laid("r" + strokes + maid), 0, 0, new int[strokes]);
            if (strokes < 9) {
                cannotSmooth(Due.laid("r" + (strokes + 1) + maid), 0, 0);
            }
        }
        RemorseWall x = Due.laid("r80;m0,1,9,0;");
        x.stroke(0, 1);
        smooths(x, 0, 0, 0, 0, 0, 0, 0, 0, 0, 0);
        x.stroke(0, 1);
        cannotSmooth(x, 0, 0);
        RemorseWall y = Due.laid("r10;m0,1,1,1;");
        smooths(y, 0, 0, 0);
        y.stroke(0, 1);
        cannotSmooth(y, 0, 0);
        smooths(y, 0, 1);
        y.pass(1);
        smooths(y, 0, 0, 0);
        RemorseWall z = Due.laid("r2;m0,1,1,0;m0,1,1,0;");
        cannotSmooth(z, 0, 0);
        cannotSmooth(z, 1, 0);
    }

    private void fewest() {
        e.sentence("Terms 3", "SMOOTH for a CELL: the fewest behind which it is 0 HIGH, ");
        String wall = "r100000;r000000;r000000;r000001;";
        smooths(Due.laid(wall + "m0,1,8,0;"), 0, 23, 1, 2, 3, 4, 5, 11, 17, 23);
        smooths(Due.laid(wall + "m0,1,8,23;"), 0, 0, 17, 11, 5, 4, 3, 2, 1, 0);
        smooths(Due.laid("r200000;r000000;r000000;r000002;m0,1,9,0;"), 0, 23, 1, 2, 3, 4, 5, 11, 17, 23, 23);
        cannotSmooth(Due.laid(wall + "m0,1,7,0;"), 0, 23);
        cannotSmooth(Due.laid("r000000;r000000;r000000;r000003;m0,1,9,0;"), 0, 23);
        smooths(Due.laid(wall + "m0,1,1,0;"), 0, 22);
        for (int iron = 1; iron <= 9; iron++) {
            smooths(Due.laid("r" + iron + ";m0," + iron + ",9,0;"), 0, 0, 0);
            if (iron < 9) {
                smooths(Due.laid("r" + (iron + 1) + ";m0," + iron + ",9,0;"), 0, 0, 0, 0);
            }
        }
        smooths(Scenes.stands(40, ";", "m0,5,8,0;"), 0, 0, 0, 0, 0, 0, 0, 0, 0, 0);
        for (int h = 0; h <= 40; h++) {
            RemorseWall x = Scenes.stands(h, "00;", "m0,5,9,0;m0,4,9,1;");
            smooths(x, 0, 0, new int[(h + 4) / 5]);
            smooths(x, 0, 1);
            if (h <= 36) {
                smooths(x, 1, 0, new int[(h + 3) / 4]);
            } else {
                cannotSmooth(x, 1, 0);
            }
        }
        cannotSmooth(Scenes.stands(40, ";", "m0,5,7,0;"), 0, 0);
        cannotSmooth(Scenes.stands(40, ";", "m0,4,9,0;"), 0, 0);
        smooths(Scenes.stands(36, ";", "m0,4,9,0;"), 0, 0, 0, 0, 0, 0, 0, 0, 0, 0, 0);
    }

    private void fewestByKind() {
        e.sentence("Terms 3", "the fewest behind which it is 0 HIGH");
        // Thorough: half of 9 from the cell ahead, but not from another row's end.
        smooths(Due.laid("r000000;r000000;r000000;r000004;m1,9,7,0;"), 0, 23, 1, 2, 3, 4, 10, 16, 22);
        cannotSmooth(Due.laid("r000000;r000000;r000000;r000005;m1,9,7,0;"), 0, 23);
        smooths(Due.laid("r00;r40;m1,9,2,1;"), 0, 2, 0, 2);
        for (int h = 1; h <= 9; h++) {
            smooths(Due.laid("r0" + h + ";m1,9,1,0;"), 0, 1, h <= 4 ? 0 : 1);
            smooths(Due.laid("r000;r00" + h + ";m1,9,1,4;"), 0, 5, h <= 4 ? 4 : 5);
        }
        smooths(Due.laid("r08;m1,8,9,0;"), 0, 1, 1);
        smooths(Due.laid("r09;m1,8,9,0;"), 0, 1, 0, 1);
        smooths(Due.laid("r02;m1,1,9,0;"), 0, 1, 1, 1);
        smooths(Due.laid("r5;m2,9,1,0;"), 0, 0, 0);
        smooths(Due.laid("r6;m2,9,2,0;"), 0, 0, 0, 0);
        smooths(Due.laid("r2;m2,1,9,0;"), 0, 0, 0, 0);
        smooths(Scenes.stands(11, ";", "m3,6,1,0;"), 0, 0, 0);
        smooths(Scenes.stands(11, ";", "m3,5,9,0;"), 0, 0, 0, 0);
        cannotSmooth(Scenes.stands(12, ";", "m3,9,9,0;"), 0, 0);
        cannotSmooth(Scenes.stands(40, ";", "m3,9,9,0;"), 0, 0);
    }

    private void firstOfSeveral() {
        e.sentence("Terms 3", "of several rows of STROKES the first (by the CELL of the first one, the lowest ahead, "
                + "then the second, ..): how many; the k-th CELL; none.");
        smooths(Due.laid("r00;r01;m0,1,9,0;"), 0, 3, 1, 3);
        smooths(Due.laid("r10;r00;m0,1,9,3;"), 0, 0, 1, 0);
        smooths(Due.laid("r00;r10;m0,1,9,1;"), 0, 2, 0, 2);
        smooths(Due.laid("r01;r00;m0,1,9,2;"), 0, 1, 0, 1);
        smooths(Due.laid("r000;r000;r001;m0,1,9,0;"), 0, 8, 1, 2, 5, 8);
        smooths(Due.laid("r100;r000;r000;m0,1,9,8;"), 0, 0, 5, 2, 1, 0);
        smooths(Due.laid("r000;r000;r100;m0,1,9,2;"), 0, 6, 1, 0, 3, 6);
        // One at each, or two at 1, or one at 1 and one at 0 do: the first goes by 0.
        smooths(Due.laid("r08;m1,6,9,0;"), 0, 1, 0, 1);
        smooths(Due.laid("r03;m1,2,9,0;"), 0, 1, 0, 1);
        smooths(Due.laid("r04;m1,3,9,0;"), 0, 1, 0, 1);
        // One alone is fewer than two that begin lower.
        smooths(Due.laid("r04;m1,4,9,0;"), 0, 1, 1);
    }

    private void roundOf() {
        e.sentence("Terms 3", "ROUND of n (1 to 5; no more than she has left) STROKES: ");
        for (int strokes = 1; strokes <= 9; strokes++) {
            RemorseWall x = Due.laid("r9;m0,1," + strokes + ",0;");
            for (int n = 1; n <= 5; n++) {
                if (n <= strokes) {
                    rounds(x, 0, 9 - n, new int[n]);
                } else {
                    e.due("round of " + n + " with " + strokes, x.round(0, n, -1), NO);
                }
            }
            e.due("round of none", x.round(0, 0, -1), BAD);
            e.due("round of 6", x.round(0, 6, -1), BAD);
        }
        RemorseWall y = Due.laid("r9;m0,1,6,0;");
        for (int left = 5; left >= 1; left--) {
            y.stroke(0, 0);
            rounds(y, 0, 3, new int[left]);
            if (left < 5) {
                e.due("round of one more than " + left, y.round(0, left + 1, -1), NO);
            }
        }
        y.stroke(0, 0);
        e.due("round of 1, none left", y.round(0, 1, -1), NO);
        y.pass(1);
        rounds(y, 0, 0, new int[5]);
    }

    private void leastStands() {
        e.sentence("Terms 3", "of all rows of so many that by which least stands on the WALL in sum, ");
        rounds(Due.laid("r90009;m0,9,9,2;"), 0, 9, 1, 0);
        rounds(Due.laid("r90009;m0,9,9,2;"), 0, 18, 1);
        rounds(Due.laid("r19;m0,9,9,0;"), 0, 1, 1);
        rounds(Due.laid("r19;m0,9,9,0;"), 0, 0, 0, 1);
        // What lies two strokes off is worth more than what lies at hand.
        rounds(Due.laid("r3009;m0,9,9,1;"), 0, 9, 0);
        rounds(Due.laid("r3009;m0,9,9,1;"), 0, 3, 2, 3);
        rounds(Due.laid("r3009;m0,9,9,1;"), 0, 3, 1, 2, 3);
        rounds(Due.laid("r3009;m0,9,9,1;"), 0, 0, 0, 1, 2, 3);
        // Hasty: nothing of the hollow one, all of the low one.
        RemorseWall hollow = Scenes.stands(12, "3;", "m3,9,9,0;");
        rounds(hollow, 0, 12, 1);
        RemorseWall low = Scenes.stands(11, "3;", "m3,9,9,0;");
        rounds(low, 0, 3, 0);
        // Thorough: 5 and 2 of the two, 5 of the last.
        rounds(Due.laid("r055;m1,5,9,1;"), 0, 3, 1);
        rounds(Due.laid("r505;m1,5,9,2;"), 0, 5, 2);
        rounds(Due.laid("r555;m1,5,9,2;"), 0, 8, 1);
        // Half of 5 is no more than what is left of a low one.
        rounds(Due.laid("r551;m1,5,9,1;"), 0, 4, 0);
        rounds(Due.laid("r550;m1,5,9,1;"), 0, 3, 0);
    }

    private void firstOfSeveralRounds() {
        e.sentence("Terms 3", "of several the first: how much; the k-th CELL.");
        rounds(Due.laid("r0;m0,1,5,0;"), 0, 0, 0, 0, 0, 0, 0);
        rounds(Due.laid("r000;r000;m0,1,5,0;"), 0, 0, 0, 0, 0, 0, 0);
        rounds(Due.laid("r000;r000;m0,1,5,5;"), 0, 0, 2, 1, 0, 0, 0);
        rounds(Due.laid("r000;r000;r000;m0,1,5,4;"), 0, 0, 1, 0, 0, 0, 0);
        rounds(Due.laid("r000000;r000000;r000000;r000000;m0,1,5,23;"), 0, 0, 17, 11, 5, 4, 3);
        rounds(Due.laid("r11;r11;m0,1,5,0;"), 0, 3, 0);
        rounds(Due.laid("r11;r11;m0,1,5,0;"), 0, 2, 0, 1);
        rounds(Due.laid("r11;r11;m0,1,5,0;"), 0, 1, 0, 1, 3);
        rounds(Due.laid("r11;r11;m0,1,5,0;"), 0, 0, 0, 1, 3, 2);
        rounds(Due.laid("r11;r11;m0,1,5,0;"), 0, 0, 0, 0, 1, 3, 2);
        rounds(Due.laid("r22;m0,1,5,1;"), 0, 3, 0);
        rounds(Due.laid("r22;m0,1,5,1;"), 0, 2, 0, 0);
        rounds(Due.laid("r22;m0,1,5,1;"), 0, 0, 0, 0, 0, 1, 1);
    }

    private void chairsFor() {
        e.sentence("Terms 3", "CHAIRS for h (0 to 40): the most CELLS no more than h HIGH");
        for (int h = 0; h <= 40; h++) {
            RemorseWall x = Scenes.stands(h, ";", "");
            for (int asked = 0; asked <= 40; asked++) {
                e.due("chairs(" + asked + ") at " + h, x.chairs(asked), asked >= h ? 1 : 0);
            }
        }
        e.due("none at all", Due.laid("r999;r999;").chairs(8), 0);
        RemorseWall x = Due.laid("r123;r456;r789;");
        int[] most = {0, 1, 1, 2, 2, 3, 3, 4, 4, 5};
        for (int h = 9; h >= 0; h--) {
            e.due("chairs(" + h + ") of nine, from above", x.chairs(h), most[h]);
        }
        for (int h = 0; h <= 9; h++) {
            e.due("chairs(" + h + ") of nine, from below", x.chairs(h), most[h]);
        }
    }

    private void chairsApart() {
        e.sentence("Terms 3", " of which no two are NEXT to one another.");
        int[][] most = {{1, 1, 2, 2, 3, 3}, {1, 2, 3, 4, 5, 6}, {2, 3, 5, 6, 8, 9}, {2, 4, 6, 8, 10, 12}};
        for (int rows = 1; rows <= 4; rows++) {
            for (int width = 1; width <= 6; width++) {
                RemorseWall x = Due.laid(Scenes.times("r" + Scenes.times("0", width) + ";", rows));
                e.due(rows + " rows of " + width, x.chairs(0), most[rows - 1][width - 1]);
            }
        }
        e.due("a row's end and the next row's start", Due.laid("r990;r099;").chairs(0), 2);
        e.due("across a corner", Due.laid("r09;r90;").chairs(0), 2);
        e.due("beside in a row", Due.laid("r00;r99;").chairs(0), 1);
        e.due("beside in a column", Due.laid("r09;r09;").chairs(0), 1);
        e.due("around one", Due.laid("r909;r090;r909;").chairs(0), 4);
        e.due("a cross", Due.laid("r909;r000;r909;").chairs(0), 4);
        e.due("a ring", Due.laid("r000;r090;r000;").chairs(0), 4);
        e.due("a row of four, a gap, one", Due.laid("r000090;").chairs(0), 3);
        e.due("the middle taken by two", Due.laid("r0990;r0990;r0990;r0990;").chairs(0), 4);
    }

    private void pardonFor() {
        e.sentence("Terms 3", "PARDON for n (1 to 20) YEARS: the CASE, not PARDONED, which, PARDONED now, "
                + "least would stand in sum behind these, ");
        RemorseWall x = Due.laid("r000;c0,0,1,0;c0,1,9,19;c0,2,2,10;");
        for (int n = 1; n <= 20; n++) {
            int first = n;
            int second = n == 20 ? 9 : 0;
            int third = n <= 10 ? 0 : 2 * (n - 10);
            int saved = Math.max(first, Math.max(second, third));
            e.due("pardons(" + n + ", 0)", x.pardons(n, 0), saved == first ? 0 : 2);
            e.due("pardons(" + n + ", 1)", x.pardons(n, 1), first + second + third - saved);
        }
        RemorseWall y = Due.laid("r00;c0,0,5,0;c0,1,4,0;");
        e.due("which", y.pardons(1, 0), 0);
        y.pardon(0);
        e.due("which, that one pardoned", y.pardons(1, 0), 1);
        e.due("how much", y.pardons(1, 1), 0);
        RemorseWall z = Due.laid("r00;c0,0,9,0;c0,1,3,0;");
        z.pass(5);
        e.due("one at the top saves nothing", z.pardons(5, 0), 1);
        e.due("how much then", z.pardons(5, 1), 55);
        // A hand that fills up for a door that looks: without the hand the door brings half.
        RemorseWall door = Due.laid("r90;c0,1,4,0;c0,0,3,0;c3,0,2,0;");
        e.due("what hangs on it counts", door.pardons(1, 0), 1);
        e.due("how much is left", door.pardons(1, 1), 15);
    }

    private void pardonOfSeveral() {
        e.sentence("Terms 3", "of several the lowest: which; how much; none.");
        RemorseWall x = Due.laid("r0;" + Scenes.times("c0,0,1,0;", 6));
        for (int c = 0; c < 6; c++) {
            e.due("which, " + c + " are pardoned", x.pardons(1, 0), c);
            e.due("how much, " + c + " are pardoned", x.pardons(1, 1), 5 - c);
            x.pardon(c);
        }
        e.due("none left, which", x.pardons(1, 0), NONE);
        e.due("none left, how much", x.pardons(1, 1), NONE);
        RemorseWall y = Due.laid("r12;c0,0,9,19;c0,1,9,19;");
        e.due("none that brings anything, the lowest", y.pardons(19, 0), 0);
        e.due("how much", y.pardons(19, 1), 3);
        RemorseWall z = Due.laid("r0;");
        e.due("no case, which", z.pardons(1, 0), NONE);
        e.due("no case, how much", z.pardons(20, 1), NONE);
    }

    // ---- promises 13 to 18.

    private void behind() {
        e.sentence("Promise 13", "BEHIND. BAD.");
        e.leaves("behind(0, 0)", Scenes::lived, x -> x.behind(0, 0), 5);
        e.leaves("behind(20, 5)", Scenes::lived, x -> x.behind(20, 5), 7);
        for (int n : new int[] {-1, 21, 22}) {
            e.leaves("behind(" + n + ", 0)", Scenes::lived, x -> x.behind(n, 0), BAD);
        }
        for (int cell : new int[] {-1, 6, 7, 24}) {
            e.leaves("behind(0, " + cell + ")", Scenes::lived, x -> x.behind(0, cell), BAD);
        }
        for (int far : Edges.FAR) {
            e.leaves("behind(" + far + ", 0)", Scenes::lived, x -> x.behind(far, 0), BAD);
            e.leaves("behind(0, " + far + ")", Scenes::lived, x -> x.behind(0, far), BAD);
        }
    }

    private void hollowed() {
        e.sentence("Promise 14", "HOLLOWED. NONE");
        e.leaves("hollowed(1)", Scenes::lived, x -> x.hollowed(1), 0);
        e.leaves("hollowed(5)", Scenes::lived, x -> x.hollowed(5), NONE);
        RemorseWall x = Due.laid("r0;c0,0,3,0;");
        for (int year = 0; year <= 6; year++) {
            e.due("in year " + year, x.hollowed(0), year <= 4 ? 4 - year : 0);
            x.pass(1);
        }
    }

    private void hollowedRefused() {
        e.sentence("Promise 14", "; BAD.");
        for (int cell : new int[] {-1, 6, 7, 24}) {
            e.leaves("hollowed(" + cell + ")", Scenes::lived, x -> x.hollowed(cell), BAD);
        }
        for (int far : Edges.FAR) {
            e.leaves("hollowed(" + far + ")", Scenes::lived, x -> x.hollowed(far), BAD);
        }
    }

    private void smooth() {
        e.sentence("Promise 15", "SMOOTH: how many (k = -1), the k-th CELL (0 first; NONE: there are not so many).");
        RemorseWall x = Due.laid("r123456;r000009;m0,1,9,0;m0,9,1,11;");
        smooths(x, 0, 0, 0);
        smooths(x, 0, 4, 1, 2, 3, 4, 4, 4, 4, 4);
        smooths(x, 1, 11, 11);
        smooths(x, 1, 7);
        for (int k : new int[] {9, 10, 23, 24, 40, 200, Integer.MAX_VALUE - 1, Integer.MAX_VALUE}) {
            e.due("smooth(0, 4, " + k + ")", x.smooth(0, 4, k), NONE);
            e.due("smooth(1, 7, " + k + ")", x.smooth(1, 7, k), NONE);
        }
        int[] row = {3, 4, 5, 5, NONE};
        for (int k = -1; k <= 3; k++) {
            int asked = k;
            e.leaves("smooth(0, 5, " + k + ")", Scenes::lived, w -> w.smooth(0, 5, asked), row[k + 1]);
        }
        e.leaves("smooth(0, 1, -1) with none left", Scenes::spent, w -> w.smooth(0, 1, -1), 0);
        e.leaves("smooth(0, 1, 0) with none left", Scenes::spent, w -> w.smooth(0, 1, 0), NONE);
    }

    private void smoothNone() {
        e.sentence("Promise 15", "NONE; ");
        for (int k : new int[] {-1, 0, 1, 8, 9, Integer.MAX_VALUE}) {
            e.leaves("too high, smooth(0, 2, " + k + ")", Scenes::lived, x -> x.smooth(0, 2, k), NONE);
            e.leaves("hollow, smooth(1, 1, " + k + ")", Scenes::lived, x -> x.smooth(1, 1, k), NONE);
            e.leaves("none left, smooth(0, 0, " + k + ")", Scenes::spent, x -> x.smooth(0, 0, k), NONE);
            e.leaves("too far, smooth(0, 3, " + k + ")", ComesEdgesTest::far, x -> x.smooth(0, 3, k), NONE);
        }
    }

    private static RemorseWall far() {
        return Due.laid("r0001;m0,9,2,0;");
    }

    private void smoothBad() {
        e.sentence("Promise 15", "BAD (k below -1, too).");
        for (int m : new int[] {-1, 2, 3}) {
            e.leaves("smooth(" + m + ", 1, -1)", Scenes::lived, x -> x.smooth(m, 1, -1), BAD);
        }
        for (int cell : new int[] {-1, 6, 7, 24}) {
            e.leaves("smooth(0, " + cell + ", -1)", Scenes::lived, x -> x.smooth(0, cell, -1), BAD);
        }
        for (int k : new int[] {-2, -3, -4, Integer.MIN_VALUE}) {
            e.leaves("smooth(0, 1, " + k + ")", Scenes::lived, x -> x.smooth(0, 1, k), BAD);
            e.leaves("too high, smooth(0, 2, " + k + ")", Scenes::lived, x -> x.smooth(0, 2, k), BAD);
            e.leaves("smooth already, smooth(0, 1, " + k + ")", Scenes::spent, x -> x.smooth(0, 1, k), BAD);
        }
        for (int far : Edges.FAR) {
            e.leaves("smooth(" + far + ", 1, -1)", Scenes::lived, x -> x.smooth(far, 1, -1), BAD);
            e.leaves("smooth(0, " + far + ", -1)", Scenes::lived, x -> x.smooth(0, far, -1), BAD);
        }
        e.due("no maid at all", Due.laid("r0;").smooth(0, 0, -1), BAD);
    }

    private void round() {
        e.sentence("Promise 16", "ROUND: how much (k = -1), the k-th CELL (0 to 4; NONE: there are not so many).");
        RemorseWall x = Due.laid("r100000;r000000;r000000;r000002;m0,1,9,23;m0,9,5,0;");
        rounds(x, 0, 2, 23);
        rounds(x, 0, 1, 23, 23);
        rounds(x, 0, 1, 17, 23, 23);
        rounds(x, 1, 2, 0, 0, 0, 0, 0);
        int[] most = {39, 4, 5, NONE, NONE, NONE};
        for (int k = -1; k <= 4; k++) {
            int asked = k;
            e.leaves("round(1, 2, " + k + ")", Scenes::lived, w -> w.round(1, 2, asked), most[k + 1]);
        }
        e.due("round(0, 5, 4) of five", x.round(0, 5, 4), 23);
        e.due("round(0, 4, 4) of four", x.round(0, 4, 4), NONE);
        e.due("round(0, 4, 3) of four", x.round(0, 4, 3), 23);
        e.due("round(0, 1, 1) of one", x.round(0, 1, 1), NONE);
    }

    private void roundBad() {
        e.sentence("Promise 16", "BAD; ");
        for (int m : new int[] {-1, 2, 3}) {
            e.leaves("round(" + m + ", 1, -1)", Scenes::lived, x -> x.round(m, 1, -1), BAD);
            e.leaves("none left, round(" + m + ", 1, -1)", Scenes::spent, x -> x.round(m, 1, -1), BAD);
        }
        for (int n : new int[] {-1, 0, 6, 7, 9}) {
            e.leaves("round(0, " + n + ", -1)", Scenes::lived, x -> x.round(0, n, -1), BAD);
            e.leaves("none left, round(0, " + n + ", -1)", Scenes::spent, x -> x.round(0, n, -1), BAD);
        }
        for (int k : new int[] {-2, -3, 5, 6}) {
            e.leaves("round(0, 1, " + k + ")", Scenes::lived, x -> x.round(0, 1, k), BAD);
            e.leaves("round(0, 4, " + k + ")", Scenes::lived, x -> x.round(0, 4, k), BAD);
            e.leaves("none left, round(0, 1, " + k + ")", Scenes::spent, x -> x.round(0, 1, k), BAD);
        }
        for (int far : Edges.FAR) {
            e.leaves("round(" + far + ", 1, -1)", Scenes::lived, x -> x.round(far, 1, -1), BAD);
            e.leaves("round(0, " + far + ", -1)", Scenes::lived, x -> x.round(0, far, -1), BAD);
            e.leaves("round(0, 1, " + far + ")", Scenes::lived, x -> x.round(0, 1, far), BAD);
        }
        e.due("no maid at all", Due.laid("r0;").round(0, 1, -1), BAD);
    }

    private void roundNo() {
        e.sentence("Promise 16", "NO: fewer are left.");
        for (int k = -1; k <= 4; k++) {
            int asked = k;
            e.leaves("four left, round(0, 5, " + k + ")", Scenes::lived, x -> x.round(0, 5, asked), NO);
            e.leaves("two left, round(1, 3, " + k + ")", Scenes::lived, x -> x.round(1, 3, asked), NO);
            e.leaves("none left, round(0, 1, " + k + ")", Scenes::spent, x -> x.round(0, 1, asked), NO);
            e.leaves("none left, round(1, 5, " + k + ")", Scenes::spent, x -> x.round(1, 5, asked), NO);
        }
        e.holds("four left, round of four", Scenes.lived().round(0, 4, -1) >= 0);
        e.holds("two left, round of two", Scenes.lived().round(1, 2, -1) >= 0);
    }

    private void chairs() {
        e.sentence("Promise 17", "CHAIRS. BAD.");
        for (int h = 0; h <= 40; h++) {
            int asked = h;
            int most = h < 3 ? 0 : h < 5 ? 1 : h < 12 ? 2 : 3;
            e.leaves("chairs(" + h + ")", Scenes::lived, x -> x.chairs(asked), most);
        }
        for (int h : new int[] {-1, -2, 41, 42, 100}) {
            e.leaves("chairs(" + h + ")", Scenes::lived, x -> x.chairs(h), BAD);
        }
        for (int far : Edges.FAR) {
            e.leaves("chairs(" + far + ")", Scenes::lived, x -> x.chairs(far), BAD);
        }
    }

    private void pardons() {
        e.sentence("Promise 18", "PARDON: which (what = 0), how much (1).");
        e.leaves("pardons(1, 0)", Scenes::lived, x -> x.pardons(1, 0), 2);
        e.leaves("pardons(1, 1)", Scenes::lived, x -> x.pardons(1, 1), 50);
        e.leaves("pardons(20, 0)", Scenes::lived, x -> x.pardons(20, 0), 0);
        e.leaves("pardons(20, 1)", Scenes::lived, x -> x.pardons(20, 1), 71);
    }

    private void pardonsRefused() {
        e.sentence("Promise 18", "NONE; BAD.");
        for (int n : new int[] {-1, 0, 21, 22}) {
            e.leaves("pardons(" + n + ", 0)", Scenes::lived, x -> x.pardons(n, 0), BAD);
            e.leaves("all are, pardons(" + n + ", 1)", Scenes::spent, x -> x.pardons(n, 1), BAD);
        }
        for (int what : new int[] {-1, 2, 3}) {
            e.leaves("pardons(1, " + what + ")", Scenes::lived, x -> x.pardons(1, what), BAD);
            e.leaves("all are, pardons(1, " + what + ")", Scenes::spent, x -> x.pardons(1, what), BAD);
        }
        for (int far : Edges.FAR) {
            e.leaves("pardons(" + far + ", 0)", Scenes::lived, x -> x.pardons(far, 0), BAD);
            e.leaves("pardons(1, " + far + ")", Scenes::lived, x -> x.pardons(1, far), BAD);
        }
        for (int n : new int[] {1, 20}) {
            e.leaves("all are, pardons(" + n + ", 0)", Scenes::spent, x -> x.pardons(n, 0), NONE);
            e.leaves("all are, pardons(" + n + ", 1)", Scenes::spent, x -> x.pardons(n, 1), NONE);
        }
        e.due("no case at all, BAD ahead of NONE", Due.laid("r1;").pardons(21, 0), BAD);
        e.due("no case at all", Due.laid("r1;").pardons(20, 0), NONE);
    }
}
