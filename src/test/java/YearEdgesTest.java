/** The edges of Terms 2 and of promises 9 to 12: years, strokes, pardons, and what is undone. */
public final class YearEdgesTest {
    private static final int BAD = Edges.BAD, NO = Edges.NO;

    private final Edges e;

    private YearEdgesTest(Edges e) {
        this.e = e;
    }

    public static void main(String[] args) {
        Edges e = new Edges("YearEdgesTest");
        all(e);
        e.end();
    }

    static void all(Edges e) {
        YearEdgesTest t = new YearEdgesTest(e);
        t.next();
        t.yearHasCome();
        t.inTheirOrder();
        t.hand();
        t.vine();
        t.fair();
        t.door();
        t.doorOfOneYear();
        t.top();
        t.strokesOfAYear();
        t.nextYear();
        t.ifSheHasOneLeft();
        t.whereSheIs();
        t.lessHigh();
        t.takesOff();
        t.thorough();
        t.gentle();
        t.hasty();
        t.pardoned();
        t.undone();
        t.stroke();
        t.strokeBad();
        t.strokeNo();
        t.pass();
        t.passBad();
        t.passNo();
        t.pardon();
        t.pardonRefused();
        t.undo();
        t.undoRefused();
    }

    /** What stands, cell by cell. */
    private void wall(String when, RemorseWall x, int... high) {
        int sum = 0;
        e.due(when + ", how many cells", x.count(0), high.length);
        for (int i = 0; i < high.length; i++) {
            e.due(when + ", high(" + i + ")", x.high(i), high[i]);
            sum += high[i];
        }
        e.due(when + ", in sum", x.count(5), sum);
    }

    private static RemorseWall aYearOf(String text) {
        RemorseWall x = Due.laid(text);
        x.pass(1);
        return x;
    }

    // ---- Terms 2.

    private void next() {
        e.sentence("Terms 2", "NEXT are CELLS beside one another in a row or a column.");
        reach("r000;r000;", new String[] {"013", "0124", "125", "034", "1345", "245"});
        reach("r00;r00;r00;", new String[] {"012", "013", "0234", "1235", "245", "345"});
        reach("r0000;", new String[] {"01", "012", "123", "23"});
        reach("r0;r0;r0;r0;", new String[] {"01", "012", "123", "23"});
        reach("r0;", new String[] {"0"});
    }

    private void reach(String wall, String[] reached) {
        for (int from = 0; from < reached.length; from++) {
            for (int to = 0; to < reached.length; to++) {
                RemorseWall x = Due.laid(wall + "m0,1,1," + from + ";");
                boolean can = reached[from].indexOf('0' + to) >= 0;
                e.due(wall + " a stroke from " + from + " at " + to, x.stroke(0, to), can ? 0 : NO);
            }
        }
    }

    private void yearHasCome() {
        e.sentence("Terms 2", "By a YEAR each CASE whose YEAR has come (its Y, or later)");
        for (int from = 0; from <= 19; from++) {
            RemorseWall x = Due.laid("r0;c0,0,1," + from + ";");
            for (int year = 1; year <= 22; year++) {
                x.pass(1);
                e.due("one from " + from + " on, in year " + year, x.high(0), year <= from ? 0 : year - from);
            }
        }
        e.due("the last years", Scenes.inYear(999, "r0;c0,0,1,0;m0,1,1,0;").stroke(0, 0), 39);
        RemorseWall late = Scenes.inYear(997, "r0;c0,0,1,0;m0,9,1,0;");
        late.stroke(0, 0);
        late.pass(2);
        e.due("still in years 997 and 998", late.high(0), 33);
    }

    private void inTheirOrder() {
        e.sentence("Terms 2", " and that is not PARDONED raises CELLS, 0 first: ");
        wall("a hand ahead of a door", aYearOf("r9;c0,0,3,0;c3,0,5,0;"), 22);
        wall("a door ahead of a hand", aYearOf("r9;c3,0,5,0;c0,0,3,0;"), 17);
        RemorseWall x = Due.laid("r9;c0,0,3,0;c3,0,5,0;");
        x.pardon(0);
        x.pass(1);
        wall("without the hand", x, 14);
        RemorseWall y = Due.laid("r9;c0,0,3,0;c3,0,5,0;");
        y.pardon(1);
        y.pass(1);
        wall("without the door", y, 12);
        y.pardon(0);
        y.pass(20);
        wall("without both", y, 12);
        wall("no case at all", aYearOf("r90;"), 9, 0);
        wall("six of them", aYearOf("r0;" + Scenes.times("c0,0,1,0;", 6)), 6);
    }

    private void hand() {
        e.sentence("Terms 2", "a HAND its own by D; ");
        for (int d = 1; d <= 9; d++) {
            wall("a hand " + d + " deep", aYearOf("r000;r000;r000;c0,4," + d + ",0;"), 0, 0, 0, 0, d, 0, 0, 0, 0);
        }
    }

    private void vine() {
        e.sentence("Terms 2", "a VINE its own by D, and the one behind it in its row (of the next greater number, "
                + "if there is one) by half of D, cut; ");
        int[] half = {0, 1, 1, 2, 2, 3, 3, 4, 4};
        for (int d = 1; d <= 9; d++) {
            String items = "," + d + ",0;";
            wall("at a row's start", aYearOf("r000;r000;c1,0" + items), d, half[d - 1], 0, 0, 0, 0);
            wall("one ahead of a row's end", aYearOf("r000;r000;c1,1" + items), 0, d, half[d - 1], 0, 0, 0);
            wall("at a row's end", aYearOf("r000;r000;c1,2" + items), 0, 0, d, 0, 0, 0);
            wall("at the last cell", aYearOf("r000;r000;c1,5" + items), 0, 0, 0, 0, 0, d);
            wall("in a column", aYearOf("r0;r0;r0;c1,1" + items), 0, d, 0);
            wall("in one cell", aYearOf("r0;c1,0" + items), d);
        }
    }

    private void fair() {
        e.sentence("Terms 2", "a FAIR all NEXT to its own by half of D, cut, and 1; ");
        int[] half = {1, 2, 2, 3, 3, 4, 4, 5, 5};
        for (int d = 1; d <= 9; d++) {
            int f = half[d - 1];
            String items = "," + d + ",0;";
            String wall = "r000;r000;r000;c2,";
            wall("in the middle", aYearOf(wall + 4 + items), 0, f, 0, f, 0, f, 0, f, 0);
            wall("in the first corner", aYearOf(wall + 0 + items), 0, f, 0, f, 0, 0, 0, 0, 0);
            wall("at a row's end", aYearOf(wall + 2 + items), 0, f, 0, 0, 0, f, 0, 0, 0);
            wall("at a row's start", aYearOf(wall + 3 + items), f, 0, 0, 0, f, 0, f, 0, 0);
            wall("at the upper edge", aYearOf(wall + 1 + items), f, 0, f, 0, f, 0, 0, 0, 0);
            wall("at the last row's start", aYearOf(wall + 6 + items), 0, 0, 0, f, 0, 0, 0, f, 0);
            wall("at the last row's middle", aYearOf(wall + 7 + items), 0, 0, 0, 0, f, 0, f, 0, f);
            wall("in the last corner", aYearOf(wall + 8 + items), 0, 0, 0, 0, 0, f, 0, f, 0);
            wall("in one cell", aYearOf("r0;c2,0" + items), 0);
            wall("in a row", aYearOf("r000;c2,1" + items), f, 0, f);
            wall("in a column", aYearOf("r0;r0;r0;c2,1" + items), f, 0, f);
        }
    }

    private void door() {
        e.sentence("Terms 2", "a DOOR its own by D, or by twice D, if its own stood 12 HIGH or more ahead of that.");
        for (int d = 1; d <= 9; d++) {
            for (int h : new int[] {0, 10, 11, 12, 13, 22}) {
                RemorseWall x = Scenes.stands(h, "9;r99;", "c3,0," + d + ",4;");
                x.pass(1);
                wall("a door at " + h, x, h < 12 ? h + d : h + 2 * d, 9, 9, 9);
            }
        }
        RemorseWall y = Due.laid("r8;c3,0,2,0;");
        int[] stands = {10, 12, 16, 20, 24, 28, 32, 36, 40, 40};
        for (int i = 0; i < stands.length; i++) {
            y.pass(1);
            wall("year " + (i + 1), y, stands[i]);
        }
    }

    private void doorOfOneYear() {
        e.sentence("Terms 2", "if its own stood 12 HIGH or more ahead of that.");
        wall("11 by the case ahead", aYearOf("r9;c0,0,2,0;c3,0,5,0;"), 16);
        wall("12 by the case ahead", aYearOf("r9;c0,0,3,0;c3,0,5,0;"), 22);
        wall("12 by a vine ahead", aYearOf("r09;c1,0,6,0;c3,1,5,0;"), 6, 22);
        wall("12 by a fair ahead", aYearOf("r09;c2,0,4,0;c3,1,5,0;"), 0, 22);
        wall("12 by a door ahead", aYearOf("r9;c3,0,3,0;c3,0,5,0;"), 22);
        wall("11 by it, 12 no sooner than behind it", aYearOf("r9;c3,0,2,0;c3,0,1,0;c3,0,1,0;"), 14);
        wall("12 by the case behind", aYearOf("r9;c3,0,2,0;c0,0,9,0;"), 20);
        wall("by one whose year has not come", aYearOf("r9;c0,0,3,1;c3,0,5,0;"), 14);
    }

    private void top() {
        e.sentence("Terms 2", "No CELL is HIGHER than 40.");
        for (int h = 31; h <= 40; h++) {
            for (int d : new int[] {1, 9}) {
                int up = Math.min(40, h + d);
                RemorseWall hand = Scenes.stands(h, ";", "c0,0," + d + ",4;");
                hand.pass(1);
                wall("a hand at " + h, hand, up);
                RemorseWall vine = Scenes.stands(h, ";", "c1,0," + d + ",4;");
                vine.pass(1);
                wall("a vine at " + h, vine, up);
                RemorseWall door = Scenes.stands(h, ";", "c3,0," + d + ",4;");
                door.pass(1);
                wall("a door at " + h, door, Math.min(40, h + 2 * d));
                RemorseWall fair = Scenes.stands(h, "0;", "c2,1," + d + ",4;");
                fair.pass(1);
                wall("a fair next to " + h, fair, Math.min(40, h + (d == 1 ? 1 : 5)), 0);
            }
        }
        RemorseWall behind = Due.laid("r06;c0,1,8,0;c1,0,9,0;");
        behind.pass(2);
        wall("behind a vine", behind, 18, 30);
        behind.pass(1);
        wall("behind a vine at the top", behind, 27, 40);
        behind.pass(20);
        wall("both at the top", behind, 40, 40);
        RemorseWall two = Scenes.stands(38, ";", "c0,0,1,4;c0,0,1,4;c0,0,1,4;");
        two.pass(1);
        wall("two of three cases fill it", two, 40);
    }

    private void strokesOfAYear() {
        e.sentence("Terms 2", "Then each MAID has all STROKES of a YEAR");
        RemorseWall x = Due.laid("r0;m0,1,1,0;m0,1,9,0;m0,1,5,0;");
        x.pass(1);
        e.due("none given, one", x.maid(0, 2), 1);
        e.due("none given, nine", x.maid(1, 2), 9);
        x.stroke(0, 0);
        for (int i = 0; i < 9; i++) {
            x.stroke(1, 0);
        }
        x.stroke(2, 0);
        e.due("left of all", x.count(8), 4);
        x.pass(1);
        e.due("all given, one", x.maid(0, 2), 1);
        e.due("all given, nine", x.maid(1, 2), 9);
        e.due("one given, five", x.maid(2, 2), 5);
        x.stroke(2, 0);
        x.pass(20);
        e.due("behind twenty, five", x.maid(2, 2), 5);
        e.due("of all", x.count(8), 15);
    }

    private void nextYear() {
        e.sentence("Terms 2", ", and it is the next YEAR (999 at most).");
        RemorseWall x = Due.laid("r0;c0,0,1,0;m0,1,1,0;");
        e.due("at first", x.count(4), 0);
        e.due("the next", x.pass(1), 1);
        e.due("as told", x.count(4), 1);
        RemorseWall y = Scenes.inYear(998, "r0;");
        e.due("the last but one", y.count(4), 998);
        e.due("the last", y.pass(1), 999);
        e.due("none behind it", y.pass(1), NO);
        e.due("it stays", y.count(4), 999);
    }

    private void ifSheHasOneLeft() {
        e.sentence("Terms 2", "A STROKE of a MAID, if she has one left, ");
        for (int strokes = 1; strokes <= 9; strokes++) {
            RemorseWall x = Due.laid("r9;m0,1," + strokes + ",0;");
            for (int i = 1; i <= strokes; i++) {
                e.due("stroke " + i + " of " + strokes, x.stroke(0, 0), 9 - i);
                e.due("how many are left", x.maid(0, 2), strokes - i);
            }
            e.due("one more than " + strokes, x.stroke(0, 0), NO);
            e.due("none are left", x.maid(0, 2), 0);
            e.due("as high as it was", x.high(0), 9 - strokes);
        }
    }

    private void whereSheIs() {
        e.sentence("Terms 2", "is at the CELL where she is, or one NEXT to it: ");
        RemorseWall x = Due.laid("r9999;r9999;r9999;m0,1,9,5;");
        int[] reached = {1, 5, 4, 5, 6, 5, 9, 5, 5};
        for (int cell : reached) {
            e.holds("at " + cell, x.stroke(0, cell) >= 0);
        }
        for (int cell : new int[] {0, 2, 3, 7, 8, 10, 11}) {
            RemorseWall y = Due.laid("r9999;r9999;r9999;m0,1,9,5;");
            e.due("not at " + cell, y.stroke(0, cell), NO);
        }
        RemorseWall z = Due.laid("r99;r99;m0,1,9,1;");
        e.due("from a row's end to the next row's start", z.stroke(0, 2), NO);
        RemorseWall w = Due.laid("r99;r99;m0,1,9,2;");
        e.due("from a row's start to the row's end ahead", w.stroke(0, 1), NO);
    }

    private void lessHigh() {
        e.sentence("Terms 2", "that is less HIGH by what she takes off (0 at least), she is there then.");
        for (int h = 0; h <= 9; h++) {
            for (int iron = 1; iron <= 9; iron++) {
                RemorseWall x = Due.laid("r5" + h + ";m0," + iron + ",2,0;");
                e.due("iron " + iron + " at " + h, x.stroke(0, 1), h <= iron ? 0 : h - iron);
                e.due("she is there", x.maid(0, 3), 1);
                e.due("the other one stays", x.high(0), 5);
            }
        }
        e.due("at 40", Scenes.stands(40, ";", "m0,9,1,0;").stroke(0, 0), 31);
    }

    private void takesOff() {
        e.sentence("Terms 2", "She takes off I; ");
        for (int iron = 1; iron <= 9; iron++) {
            RemorseWall x = Scenes.stands(20, "9;", "m0," + iron + ",2,0;");
            e.due("iron " + iron, x.stroke(0, 0), 20 - iron);
            e.due("the one behind it", x.high(1), 9);
        }
    }

    private void thorough() {
        e.sentence("Terms 2", "a THOROUGH one also half of I, cut, of the CELL behind it in its row (if there is one); ");
        int[] half = {0, 1, 1, 2, 2, 3, 3, 4, 4};
        for (int iron = 1; iron <= 9; iron++) {
            int h = half[iron - 1];
            String maid = "m1," + iron + ",1,";
            RemorseWall x = Due.laid("r99;r99;" + maid + "0;");
            e.due("iron " + iron, x.stroke(0, 0), 9 - iron);
            wall("the one behind it", x, 9 - iron, 9 - h, 9, 9);
            RemorseWall end = Due.laid("r99;r99;" + maid + "1;");
            end.stroke(0, 1);
            wall("at a row's end", end, 9, 9 - iron, 9, 9);
            RemorseWall last = Due.laid("r99;r99;" + maid + "3;");
            last.stroke(0, 3);
            wall("at the last cell", last, 9, 9, 9, 9 - iron);
            RemorseWall column = Due.laid("r9;r9;" + maid + "0;");
            column.stroke(0, 0);
            wall("in a column", column, 9 - iron, 9);
            for (int low = 0; low <= 5; low++) {
                RemorseWall y = Due.laid("r0" + low + ";" + maid + "0;");
                e.due("at a smooth cell", y.stroke(0, 0), 0);
                wall("no lower than 0 behind it", y, 0, low <= h ? 0 : low - h);
            }
        }
        RemorseWall beside = Due.laid("r999;m1,4,1,0;");
        e.due("at a cell beside", beside.stroke(0, 1), 5);
        wall("behind that cell, not where she was", beside, 9, 5, 7);
        RemorseWall hollow = Due.laid("r99;c0,0,9,0;c0,1,9,0;m1,4,1,0;");
        hollow.pass(1);
        e.due("hollow ones too", hollow.stroke(0, 0), 14);
        e.due("behind it too", hollow.high(1), 16);
    }

    private void gentle() {
        e.sentence("Terms 2", "a GENTLE one 1, and half of I, cut; ");
        int[] takes = {1, 2, 2, 3, 3, 4, 4, 5, 5};
        for (int iron = 1; iron <= 9; iron++) {
            int t = takes[iron - 1];
            RemorseWall x = Due.laid("r99;m2," + iron + ",1,0;");
            e.due("iron " + iron, x.stroke(0, 0), 9 - t);
            e.due("the one behind it", x.high(1), 9);
            e.due("as high as she takes", Due.laid("r" + t + ";m2," + iron + ",1,0;").stroke(0, 0), 0);
            e.due("lower", Due.laid("r" + (t - 1) + ";m2," + iron + ",1,0;").stroke(0, 0), 0);
            e.due("higher by 1", Due.laid("r" + (t + 1) + ";m2," + iron + ",1,0;").stroke(0, 0), 1);
            e.due("a hollow one", Scenes.stands(12, ";", "m2," + iron + ",1,0;").stroke(0, 0), 12 - t);
        }
    }

    private void hasty() {
        e.sentence("Terms 2", "a HASTY one nothing, if it is HOLLOW (12 HIGH or more), twice I else.");
        for (int h = 0; h <= 40; h++) {
            RemorseWall x = Scenes.stands(h, "9;", "m3,1,1,0;m3,5,1,0;m3,9,1,0;");
            boolean hollow = h >= 12;
            e.due("iron 1 at " + h, x.stroke(0, 0), hollow ? h : h <= 2 ? 0 : h - 2);
            x.undo();
            e.due("iron 5 at " + h, x.stroke(1, 0), hollow ? h : h <= 10 ? 0 : 1);
            x.undo();
            e.due("iron 9 at " + h, x.stroke(2, 0), hollow ? h : 0);
            e.due("it was a stroke all the same", x.maid(2, 2), 0);
            e.due("the one behind it", x.high(1), 9);
        }
        RemorseWall other = Due.laid("r93;c0,0,3,0;m3,2,2,0;");
        other.pass(1);
        e.due("the cell counts, not where she was", other.stroke(0, 1), 0);
        e.due("nor where she is", other.stroke(0, 0), 12);
    }

    private void pardoned() {
        e.sentence("Terms 2", "A CASE is PARDONED: it raises nothing any more.");
        for (int kind = 0; kind <= 3; kind++) {
            RemorseWall x = Due.laid("r000;c" + kind + ",1,9,0;c0,0,1,0;");
            x.pass(1);
            int sum = x.count(5);
            x.pardon(0);
            x.pass(20);
            e.due("kind " + kind + ", only the other one raises", x.count(5), sum + 20);
            e.due("what it raised stays", x.count(5) - x.high(0), sum - (kind == 2 ? 6 : 1));
        }
        RemorseWall ahead = Due.laid("r0;c0,0,9,19;");
        ahead.pardon(0);
        ahead.pass(20);
        ahead.pass(20);
        e.due("pardoned ahead of its year", ahead.high(0), 0);
    }

    private void undone() {
        e.sentence("Terms 2", "UNDONE are the latest of these, of YEARS (all that go by at one time are one; the last 8 can be).");
        RemorseWall x = Due.laid("r0;c0,0,1,0;m0,1,9,0;");
        for (int i = 1; i <= 10; i++) {
            x.pass(i == 1 ? 20 : 1);
            e.due("how many can be behind " + i, x.count(10), i < 8 ? i : 8);
        }
        for (int i = 1; i <= 8; i++) {
            e.due("undo() number " + i, x.undo(), 8 - i);
            e.due("the year then", x.count(4), 29 - i);
        }
        e.due("a ninth", x.undo(), NO);
        e.due("the year stays", x.count(4), 21);
        RemorseWall y = Due.laid("r0;c0,0,1,0;");
        y.pass(20);
        y.pass(1);
        y.undo();
        e.due("twenty years are one", y.undo(), 0);
        e.due("all of them", y.count(4), 0);
        e.due("and what they raised", y.high(0), 0);
        RemorseWall z = Due.laid("r9;c0,0,1,0;m0,1,9,0;");
        for (int i = 0; i < 9; i++) {
            z.stroke(0, 0);
        }
        for (int i = 0; i < 8; i++) {
            z.undo();
        }
        e.due("the ninth stroke back stays", z.high(0), 8);
        e.due("no more can be", z.undo(), NO);
        e.due("one anew", z.stroke(0, 0), 7);
        e.due("can be", z.undo(), 0);
        e.due("to there", z.high(0), 8);
    }

    // ---- promises 9 to 12.

    private void stroke() {
        e.sentence("Promise 9", "A STROKE: how HIGH the CELL is then.");
        RemorseWall x = Due.laid("r123456;r654321;r123456;r654321;m0,1,9,23;m0,9,1,0;");
        e.due("the last cell", x.stroke(0, 23), 0);
        e.due("the first cell", x.stroke(1, 0), 0);
        e.due("above", x.stroke(0, 17), 5);
        e.due("ahead", x.stroke(0, 16), 4);
        e.due("how many can be undone", x.count(10), 4);
        RemorseWall y = Due.laid("r0;m0,1,1,0;");
        e.due("a smooth one", y.stroke(0, 0), 0);
        e.due("a stroke all the same", y.maid(0, 2), 0);
        e.due("that can be undone", y.count(10), 1);
        e.due("a high one", Scenes.stands(40, ";", "m3,9,1,0;").stroke(0, 0), 40);
    }

    private void strokeBad() {
        e.sentence("Promise 9", "BAD; ");
        for (int m : new int[] {-1, 2, 3}) {
            e.leaves("stroke(" + m + ", 1)", Scenes::lived, x -> x.stroke(m, 1), BAD);
        }
        for (int cell : new int[] {-1, 6, 7, 24}) {
            e.leaves("stroke(0, " + cell + ")", Scenes::lived, x -> x.stroke(0, cell), BAD);
            e.leaves("none left, stroke(0, " + cell + ")", Scenes::spent, x -> x.stroke(0, cell), BAD);
        }
        for (int far : Edges.FAR) {
            e.leaves("stroke(" + far + ", 1)", Scenes::lived, x -> x.stroke(far, 1), BAD);
            e.leaves("stroke(0, " + far + ")", Scenes::lived, x -> x.stroke(0, far), BAD);
        }
        e.due("no maid at all", Due.laid("r1;").stroke(0, 0), BAD);
    }

    private void strokeNo() {
        e.sentence("Promise 9", "NO: none left, neither there nor NEXT.");
        for (int cell : new int[] {3, 5}) {
            e.leaves("stroke(0, " + cell + ")", Scenes::lived, x -> x.stroke(0, cell), NO);
        }
        for (int cell = 0; cell < 6; cell++) {
            int at = cell;
            e.leaves("none left, stroke(0, " + cell + ")", Scenes::spent, x -> x.stroke(0, at), NO);
            e.leaves("none left, stroke(1, " + cell + ")", Scenes::spent, x -> x.stroke(1, at), NO);
        }
        RemorseWall x = Scenes.spent();
        x.pass(1);
        e.due("behind a year", x.stroke(0, 2), 9);
    }

    private void pass() {
        e.sentence("Promise 10", "n YEARS (1 to 20) go by: which it is.");
        for (int n = 1; n <= 20; n++) {
            RemorseWall x = Due.laid("r0;c0,0,1,0;c0,0,2,19;m0,1,3,0;");
            x.stroke(0, 0);
            e.due("pass(" + n + ")", x.pass(n), n);
            e.due("how high it is then", x.high(0), n < 20 ? n : 22);
            e.due("the strokes then", x.maid(0, 2), 3);
            e.due("pass(" + n + ") again", x.pass(n), 2 * n);
            e.due("how many can be undone", x.count(10), 3);
        }
    }

    private void passBad() {
        e.sentence("Promise 10", "BAD; ");
        for (int n : new int[] {0, 21, -1, -20, 22, 40, 999, 1000}) {
            e.leaves("pass(" + n + ")", Scenes::lived, x -> x.pass(n), BAD);
            e.leaves("pass(" + n + ") in year 999", () -> Scenes.inYear(999, Scenes.LIVED), x -> x.pass(n), BAD);
        }
        for (int far : Edges.FAR) {
            e.leaves("pass(" + far + ")", Scenes::lived, x -> x.pass(far), BAD);
            e.leaves("pass(" + far + ") in year 999", () -> Scenes.inYear(999, Scenes.LIVED), x -> x.pass(far), BAD);
        }
    }

    private void passNo() {
        e.sentence("Promise 10", "NO: beyond 999.");
        for (int n = 1; n <= 20; n++) {
            int years = n;
            RemorseWall x = Scenes.inYear(999 - n, "r0;c0,0,1,0;m0,1,1,0;");
            e.due("pass(" + n + ") up to 999", x.pass(n), 999);
            e.due("which it is", x.count(4), 999);
            Edges.Maker tooLate = () -> Scenes.inYear(1000 - years, Scenes.LIVED);
            e.leaves("pass(" + n + ") one beyond", tooLate, w -> w.pass(years), NO);
            e.leaves("pass(" + n + ") in year 999", () -> Scenes.inYear(999, Scenes.LIVED), w -> w.pass(years), NO);
        }
        RemorseWall y = Scenes.inYear(999, "r0;c0,0,1,0;");
        y.undo();
        e.due("undone, a year can go by", y.pass(1), 981);
    }

    private void pardon() {
        e.sentence("Promise 11", "A CASE is PARDONED: how many are not.");
        RemorseWall x = Due.laid("r0;" + Scenes.times("c0,0,1,0;", 6));
        int[] order = {5, 0, 3, 1, 4, 2};
        for (int i = 0; i < 6; i++) {
            e.due("pardon(" + order[i] + ")", x.pardon(order[i]), 5 - i);
            e.due("how many are not", x.count(7), 5 - i);
        }
        x.pass(20);
        e.due("nothing raises", x.high(0), 0);
        RemorseWall y = Due.laid("r0;c0,0,1,0;");
        e.due("the only one", y.pardon(0), 0);
        e.due("it can be undone", y.undo(), 0);
        e.due("and is not pardoned then", y.pardon(0), 0);
    }

    private void pardonRefused() {
        e.sentence("Promise 11", "BAD; NO: it is.");
        for (int c : new int[] {-1, 3, 4, 6, 32, 33}) {
            e.leaves("pardon(" + c + ")", Scenes::lived, x -> x.pardon(c), BAD);
            e.leaves("all are, pardon(" + c + ")", Scenes::spent, x -> x.pardon(c), BAD);
        }
        for (int far : Edges.FAR) {
            e.leaves("pardon(" + far + ")", Scenes::lived, x -> x.pardon(far), BAD);
        }
        e.leaves("pardon(1)", Scenes::lived, x -> x.pardon(1), NO);
        for (int c = 0; c < 3; c++) {
            int asked = c;
            e.leaves("all are, pardon(" + c + ")", Scenes::spent, x -> x.pardon(asked), NO);
        }
        e.due("no case at all", Due.laid("r1;").pardon(0), BAD);
        RemorseWall six = Due.laid("r1;" + Scenes.times("c0,0,1,0;", 6));
        e.due("the one behind six", six.pardon(6), BAD);
        e.due("the last of six", six.pardon(5), 5);
        e.due("it is", six.pardon(5), NO);
    }

    private void undo() {
        e.sentence("Promise 12", "UNDONE: how many more can be.");
        e.same("a stroke", undone(x -> x.stroke(0, 2)), Scenes.lived());
        e.same("a year", undone(x -> x.pass(1)), Scenes.lived());
        e.same("twenty years", undone(x -> x.pass(20)), Scenes.lived());
        e.same("a pardon", undone(x -> x.pardon(0)), Scenes.lived());
        RemorseWall x = Scenes.lived();
        int[] more = {4, 3, 2, 1, 0};
        int[] years = {2, 2, 2, 0, 0};
        int[] pardoned = {1, 1, 0, 0, 0};
        int[] cellFour = {4, 8, 8, 8, 8};
        int[] cellOne = {9, 9, 9, 0, 3};
        for (int i = 0; i < 5; i++) {
            e.due("undo() number " + (i + 1), x.undo(), more[i]);
            e.due("how many more", x.count(10), more[i]);
            e.due("the year", x.count(4), years[i]);
            e.due("whether it is pardoned", x.matter(1, 4), pardoned[i]);
            e.due("cell 4", x.high(4), cellFour[i]);
            e.due("cell 1", x.high(1), cellOne[i]);
        }
        e.due("what is seen stays", x.count(9), 2);
        e.due("what is kept stays", x.count(11), 2);
        e.due("the text stays", x.count(12), 56);
        for (int n = 1; n <= 9; n++) {
            RemorseWall y = Due.laid("r0;c0,0,1,0;");
            for (int i = 0; i < n; i++) {
                y.pass(1);
            }
            e.due("of " + n, y.undo(), n <= 8 ? n - 1 : 7);
        }
    }

    private static RemorseWall undone(Edges.Call act) {
        RemorseWall x = Scenes.lived();
        act.on(x);
        x.undo();
        return x;
    }

    private void undoRefused() {
        e.sentence("Promise 12", "NO.");
        e.due("of a new object", new RemorseWall().undo(), NO);
        e.leaves("of a wall laid", () -> Due.laid(Scenes.LIVED), x -> x.undo(), NO);
        e.leaves("of a wall that came back", YearEdgesTest::cameBack, x -> x.undo(), NO);
        e.leaves("of all undone", YearEdgesTest::allUndone, x -> x.undo(), NO);
        RemorseWall x = Scenes.lived();
        x.lay();
        e.due("a refused lay() leaves what can be", x.undo(), 4);
    }

    private static RemorseWall cameBack() {
        RemorseWall x = Scenes.lived();
        x.back();
        return x;
    }

    private static RemorseWall allUndone() {
        RemorseWall x = Scenes.lived();
        for (int i = 0; i < 5; i++) {
            x.undo();
        }
        return x;
    }
}
