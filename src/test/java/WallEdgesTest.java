/** The edges of promises 6 to 8: what stands where, what each case brings, what each maid takes off. */
public final class WallEdgesTest {
    private static final int BAD = Edges.BAD;

    private final Edges e;

    private WallEdgesTest(Edges e) {
        this.e = e;
    }

    public static void main(String[] args) {
        Edges e = new Edges("WallEdgesTest");
        all(e);
        e.end();
    }

    static void all(Edges e) {
        WallEdgesTest t = new WallEdgesTest(e);
        t.high();
        t.highRefused();
        t.ofACase();
        t.wouldRaise();
        t.wouldRaiseWhateverItsYear();
        t.wouldRaiseNoMoreThan();
        t.wouldRaisePardoned();
        t.matterRefused();
        t.ofAMaid();
        t.takesOff();
        t.takesOffOfHollow();
        t.takesOffWhateverIsLeft();
        t.takesOffNoMoreThan();
        t.maidRefused();
    }

    private void high() {
        e.sentence("Promise 6", "How HIGH a CELL is.");
        for (int rows = 1; rows <= 4; rows++) {
            for (int width = 1; width <= 6; width++) {
                String wall = "r" + Scenes.times("0", width - 1) + "3;";
                RemorseWall x = Due.laid(Scenes.times(wall, rows));
                int cells = rows * width;
                e.due("the first of " + cells, x.high(0), width == 1 ? 3 : 0);
                e.due("the last of " + cells, x.high(cells - 1), 3);
                e.due("none of " + cells, x.high(cells), BAD);
                e.due("nor one ahead", x.high(-1), BAD);
            }
        }
        for (int h = 0; h <= 40; h++) {
            e.due("a cell that stands " + h, Scenes.stands(h, ";", "").high(0), h);
        }
        e.leaves("high(2)", Scenes::lived, x -> x.high(2), 16);
    }

    private void highRefused() {
        e.sentence("Promise 6", "BAD.");
        for (int cell : new int[] {-1, 6, 7, 18, 23, 24}) {
            e.leaves("high(" + cell + ")", Scenes::lived, x -> x.high(cell), BAD);
        }
        for (int far : Edges.FAR) {
            e.leaves("high(" + far + ")", Scenes::lived, x -> x.high(far), BAD);
        }
    }

    private void ofACase() {
        e.sentence("Promise 7", "Of a CASE: KIND (what = 0), CELL (1), D (2), Y (3), 1 if PARDONED (4), ");
        RemorseWall x = Due.laid("r0000;r0000;c0,0,1,0;c3,7,9,19;c1,6,4,1;c2,5,8,18;c0,3,2,9;c3,4,3,10;");
        int[][] told = {{0, 0, 1, 0}, {3, 7, 9, 19}, {1, 6, 4, 1}, {2, 5, 8, 18}, {0, 3, 2, 9}, {3, 4, 3, 10}};
        for (int c = 0; c < 6; c++) {
            for (int what = 0; what < 4; what++) {
                e.due("matter(" + c + ", " + what + ")", x.matter(c, what), told[c][what]);
            }
            e.due("matter(" + c + ", 4) ahead", x.matter(c, 4), 0);
        }
        x.pardon(0);
        x.pardon(5);
        for (int c = 0; c < 6; c++) {
            e.due("matter(" + c + ", 4)", x.matter(c, 4), c == 0 || c == 5 ? 1 : 0);
        }
        x.undo();
        e.due("matter(5, 4) undone", x.matter(5, 4), 0);
        e.leaves("matter(1, 4)", Scenes::lived, w -> w.matter(1, 4), 1);
        e.leaves("matter(2, 5)", Scenes::lived, w -> w.matter(2, 5), 4);
    }

    private void wouldRaise() {
        e.sentence("Promise 7", "by how much it would raise its own CELL now, ");
        for (int d = 1; d <= 9; d++) {
            for (int h : new int[] {0, 11, 12, 13}) {
                RemorseWall x = Scenes.stands(h, "0;r00;", "c0,0," + d + ",4;c1,0," + d + ",4;c2,0," + d + ",4;"
                        + "c3,0," + d + ",4;");
                e.due("a hand at " + h, x.matter(1, 5), d);
                e.due("a vine at " + h, x.matter(2, 5), d);
                e.due("a fair at " + h, x.matter(3, 5), 0);
                e.due("a door at " + h, x.matter(4, 5), h < 12 ? d : 2 * d);
            }
        }
    }

    private void wouldRaiseWhateverItsYear() {
        e.sentence("Promise 7", "whatever its YEAR (5; ");
        RemorseWall x = Due.laid("r0;c0,0,3,0;c0,0,4,1;c0,0,5,19;");
        for (int year = 0; year <= 3; year++) {
            e.due("in year " + year + " one from 0 on", x.matter(0, 5), 3);
            e.due("in year " + year + " one from 1 on", x.matter(1, 5), 4);
            e.due("in year " + year + " one from 19 on", x.matter(2, 5), 5);
            x.pass(1);
        }
        RemorseWall late = Scenes.inYear(999, "r0;c0,0,9,0;c0,0,5,19;m0,9,1,0;");
        late.stroke(0, 0);
        e.due("in year 999 one from 0 on", late.matter(0, 5), 9);
        e.due("in year 999 one from 19 on", late.matter(1, 5), 5);
    }

    private void wouldRaiseNoMoreThan() {
        e.sentence("Promise 7", "no more than 40 less how HIGH that is; ");
        for (int h = 22; h <= 40; h++) {
            RemorseWall x = Scenes.stands(h, ";", "c0,0,9,19;c1,0,1,19;c2,0,9,19;c3,0,9,19;c3,0,4,19;");
            int room = 40 - h;
            e.due("a hand at " + h, x.matter(1, 5), h <= 31 ? 9 : room);
            e.due("a vine at " + h, x.matter(2, 5), h <= 39 ? 1 : 0);
            e.due("a fair at " + h, x.matter(3, 5), 0);
            e.due("a deep door at " + h, x.matter(4, 5), room);
            e.due("a door at " + h, x.matter(5, 5), h <= 32 ? 8 : room);
        }
    }

    private void wouldRaisePardoned() {
        e.sentence("Promise 7", "PARDONED: 0).");
        for (int h : new int[] {0, 11, 12, 39, 40}) {
            RemorseWall x = Scenes.stands(h, ";", "c0,0,1,19;c1,0,9,19;c2,0,9,19;c3,0,9,19;");
            for (int c = 1; c <= 4; c++) {
                x.pardon(c);
                e.due("case " + c + " at " + h, x.matter(c, 5), 0);
                x.undo();
                e.holds("case " + c + " at " + h + " again", x.matter(c, 5) > 0 == (c != 3 && h < 40));
            }
        }
    }

    private void matterRefused() {
        e.sentence("Promise 7", "BAD.");
        for (int c : new int[] {-1, 3, 4, 5, 6}) {
            for (int what = 0; what <= 5; what++) {
                int asked = what;
                e.leaves("matter(" + c + ", " + what + ")", Scenes::lived, x -> x.matter(c, asked), BAD);
            }
        }
        for (int what : new int[] {-1, 6, 7}) {
            e.leaves("matter(0, " + what + ")", Scenes::lived, x -> x.matter(0, what), BAD);
            e.leaves("matter(3, " + what + ")", Scenes::lived, x -> x.matter(3, what), BAD);
        }
        for (int far : Edges.FAR) {
            e.leaves("matter(" + far + ", 0)", Scenes::lived, x -> x.matter(far, 0), BAD);
            e.leaves("matter(0, " + far + ")", Scenes::lived, x -> x.matter(0, far), BAD);
        }
        e.due("no case at all", Due.laid("r1;").matter(0, 0), BAD);
        RemorseWall six = Due.laid("r1;" + Scenes.times("c0,0,1,0;", 6));
        e.due("the last of six", six.matter(5, 2), 1);
        e.due("none behind it", six.matter(6, 2), BAD);
    }

    private void ofAMaid() {
        e.sentence("Promise 8", "Of a MAID: KIND (what = 0), I (1), STROKES left (2), CELL (3), ");
        RemorseWall x = Due.laid("r00;r00;m3,9,9,3;m0,1,1,0;m1,5,2,2;");
        int[][] told = {{3, 9, 9, 3}, {0, 1, 1, 0}, {1, 5, 2, 2}};
        for (int m = 0; m < 3; m++) {
            for (int what = 0; what < 4; what++) {
                e.due("maid(" + m + ", " + what + ")", x.maid(m, what), told[m][what]);
            }
        }
        x.stroke(0, 2);
        x.stroke(1, 0);
        e.due("strokes left", x.maid(0, 2), 8);
        e.due("where she is", x.maid(0, 3), 2);
        e.due("none left", x.maid(1, 2), 0);
        e.due("she stayed", x.maid(1, 3), 0);
        e.due("another one's", x.maid(2, 2), 2);
        e.leaves("maid(1, 3)", Scenes::lived, w -> w.maid(1, 3), 4);
        e.leaves("maid(1, 4)", Scenes::lived, w -> w.maid(1, 4), 4);
    }

    private void takesOff() {
        e.sentence("Promise 8", "what she would take off that CELL now, ");
        int[] gentle = {1, 2, 2, 3, 3, 4, 4, 5, 5};
        for (int iron = 1; iron <= 9; iron++) {
            RemorseWall x = Scenes.stands(30, "9;", "m0," + iron + ",1,0;m1," + iron + ",1,0;m2," + iron + ",1,0;");
            e.due("plain by " + iron, x.maid(0, 4), iron);
            e.due("thorough by " + iron, x.maid(1, 4), iron);
            e.due("gentle by " + iron, x.maid(2, 4), gentle[iron - 1]);
        }
        RemorseWall y = Due.laid("r38;m0,5,2,0;");
        e.due("where she is", y.maid(0, 4), 3);
        y.stroke(0, 1);
        e.due("where she is then", y.maid(0, 4), 3);
        y.stroke(0, 0);
        e.due("nothing of a smooth cell", y.maid(0, 4), 0);
    }

    private void takesOffOfHollow() {
        e.sentence("Promise 8", "what she would take off that CELL now");
        for (int h = 0; h <= 40; h++) {
            RemorseWall x = Scenes.stands(h, ";", "m3,1,1,0;m3,6,1,0;m3,9,1,0;");
            e.due("hasty by 1 at " + h, x.maid(0, 4), h == 0 || h >= 12 ? 0 : h == 1 ? 1 : 2);
            e.due("hasty by 6 at " + h, x.maid(1, 4), h >= 12 ? 0 : h);
            e.due("hasty by 9 at " + h, x.maid(2, 4), h >= 12 ? 0 : h);
        }
    }

    private void takesOffWhateverIsLeft() {
        e.sentence("Promise 8", "whatever she has left (4; ");
        RemorseWall x = Due.laid("r9;m0,2,3,0;");
        for (int left = 3; left >= 0; left--) {
            e.due("with " + left + " left, how many", x.maid(0, 2), left);
            e.due("with " + left + " left", x.maid(0, 4), 2);
            x.stroke(0, 0);
        }
    }

    private void takesOffNoMoreThan() {
        e.sentence("Promise 8", "no more than it is HIGH).");
        for (int h = 0; h <= 9; h++) {
            for (int iron = 1; iron <= 9; iron++) {
                RemorseWall x = Due.laid("r" + h + "9;m0," + iron + ",1,0;m1," + iron + ",1,0;m2,9,1,0;");
                e.due("plain by " + iron + " at " + h, x.maid(0, 4), h < iron ? h : iron);
                e.due("thorough by " + iron + " at " + h, x.maid(1, 4), h < iron ? h : iron);
                e.due("gentle by 9 at " + h, x.maid(2, 4), h < 5 ? h : 5);
            }
        }
    }

    private void maidRefused() {
        e.sentence("Promise 8", "BAD.");
        for (int m : new int[] {-1, 2, 3}) {
            for (int what = 0; what <= 4; what++) {
                int asked = what;
                e.leaves("maid(" + m + ", " + what + ")", Scenes::lived, x -> x.maid(m, asked), BAD);
            }
        }
        for (int what : new int[] {-1, 5, 6}) {
            e.leaves("maid(0, " + what + ")", Scenes::lived, x -> x.maid(0, what), BAD);
            e.leaves("maid(2, " + what + ")", Scenes::lived, x -> x.maid(2, what), BAD);
        }
        for (int far : Edges.FAR) {
            e.leaves("maid(" + far + ", 0)", Scenes::lived, x -> x.maid(far, 0), BAD);
            e.leaves("maid(0, " + far + ")", Scenes::lived, x -> x.maid(0, far), BAD);
        }
        e.due("no maid at all", Due.laid("r1;").maid(0, 0), BAD);
        RemorseWall three = Due.laid("r1;" + Scenes.times("m0,1,1,0;", 3));
        e.due("the last of three", three.maid(2, 1), 1);
        e.due("none behind it", three.maid(3, 1), BAD);
    }
}
