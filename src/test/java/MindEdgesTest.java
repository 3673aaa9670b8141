/** The edges of Terms 4 on what is seen, and of promises 19 to 22: what he had on his mind. */
public final class MindEdgesTest {
    private static final int BAD = Edges.BAD, FULL = Edges.FULL, NONE = Edges.NONE;

    private final Edges e;

    private MindEdgesTest(Edges e) {
        this.e = e;
    }

    public static void main(String[] args) {
        Edges e = new Edges("MindEdgesTest");
        all(e);
        e.end();
    }

    static void all(Edges e) {
        MindEdgesTest t = new MindEdgesTest(e);
        t.seen();
        t.mindOf();
        t.pardonedOnesToo();
        t.fromTheirYears();
        t.asLaid();
        t.howManySets();
        t.deepFor();
        t.deepLikewise();
        t.howManyDepths();
        t.see();
        t.seeRefused();
        t.forget();
        t.mind();
        t.mindRefused();
        t.deep();
        t.deepRefused();
    }

    private void minds(RemorseWall x, int n, int howMany, int lowest) {
        e.due("mind(" + n + ", 0)", x.mind(n, 0), howMany);
        e.due("mind(" + n + ", 1)", x.mind(n, 1), lowest);
    }

    private void deeps(RemorseWall x, int c, int n, int howMany, int least) {
        e.due("deep(" + c + ", " + n + ", 0)", x.deep(c, n, 0), howMany);
        e.due("deep(" + c + ", " + n + ", 1)", x.deep(c, n, 1), least);
    }

    /** A wall laid, and that its cells are seen to stand so high, first cell by first cell. */
    private static RemorseWall seeing(String text, int... high) {
        RemorseWall x = Due.laid(text);
        for (int i = 0; i < high.length; i++) {
            x.see(i, high[i]);
        }
        return x;
    }

    // ---- Terms 4.

    private void seen() {
        e.sentence("Terms 4", "SEEN (8 at most) is that a CELL stands h (0 to 40) HIGH.");
        RemorseWall x = Due.laid("r0;c0,0,1,0;");
        for (int n = 1; n <= 8; n++) {
            e.due("see(0, 1) number " + n, x.see(0, 1), n);
            minds(x, 1, 1, 1);
        }
        e.due("a ninth", x.see(0, 1), FULL);
        e.due("how many", x.count(9), 8);
        for (int h = 0; h <= 40; h++) {
            e.due("see(0, " + h + ")", Due.laid("r0;").see(0, h), 1);
            int can = h <= 9 ? 1 : 0;
            minds(seeing("r" + h % 10 + ";", h), 1, can, can == 1 ? 0 : NONE);
        }
        minds(seeing("r0;c0,0,4,0;", 40), 10, 1, 1);
        minds(seeing("r0;c0,0,4,0;", 39), 10, 0, NONE);
        minds(seeing("r0;c0,0,4,0;", 0), 10, 1, 0);
        RemorseWall eighth = Due.laid("r0;c0,0,1,0;");
        for (int i = 0; i < 7; i++) {
            eighth.see(0, 1);
        }
        eighth.see(0, 2);
        minds(eighth, 1, 0, NONE);
        RemorseWall first = Due.laid("r0;c0,0,1,0;");
        first.see(0, 2);
        for (int i = 0; i < 7; i++) {
            first.see(0, 1);
        }
        minds(first, 1, 0, NONE);
        minds(seeing("r12;", 1, 2), 1, 1, 0);
        minds(seeing("r12;", 2, 1), 1, 0, NONE);
    }

    private void mindOf() {
        e.sentence("Terms 4", "MIND of n (1 to 20): sets of CASES");
        for (int n = 1; n <= 20; n++) {
            RemorseWall x = seeing("r0;c0,0,1,0;", n);
            for (int asked = 1; asked <= 20; asked++) {
                minds(x, asked, asked == n ? 1 : 0, asked == n ? 1 : NONE);
            }
            e.due("mind(0, 0)", x.mind(0, 0), BAD);
            e.due("mind(21, 0)", x.mind(21, 0), BAD);
        }
    }

    private void pardonedOnesToo() {
        e.sentence("Terms 4", "(PARDONED ones, too) such that, had there been just these, ");
        RemorseWall x = seeing("r0;c0,0,1,0;c0,0,2,0;", 3);
        minds(x, 1, 1, 3);
        x.pardon(0);
        minds(x, 1, 1, 3);
        x.pardon(1);
        minds(x, 1, 1, 3);
        x.undo();
        minds(x, 1, 1, 3);
        minds(seeing("r0;c0,0,1,0;c0,0,2,0;", 2), 1, 1, 2);
        minds(seeing("r0;c0,0,1,0;c0,0,2,0;", 1), 1, 1, 1);
        minds(seeing("r0;c0,0,1,0;c0,0,2,0;", 0), 1, 1, 0);
    }

    private void fromTheirYears() {
        e.sentence("Terms 4", "all from their YEARS on, ");
        for (int from = 0; from <= 19; from++) {
            RemorseWall x = seeing("r0;c0,0,1," + from + ";", 1);
            minds(x, from + 1, 1, 1);
            if (from > 0) {
                minds(x, from, 0, NONE);
            }
            if (from < 19) {
                minds(x, from + 2, 0, NONE);
            }
        }
        minds(seeing("r0;c0,0,1,19;", 0), 19, 2, 0);
        minds(seeing("r0;c0,0,1,19;", 0), 20, 1, 0);
    }

    private void asLaid() {
        e.sentence("Terms 4", "the WALL being as LAID at first, nobody giving a STROKE, "
                + "all that is SEEN would be so behind n YEARS from YEAR 0 on: ");
        RemorseWall x = seeing("r5;c0,0,2,0;m0,9,9,0;", 9);
        minds(x, 2, 1, 1);
        x.stroke(0, 0);
        minds(x, 2, 1, 1);
        x.pass(5);
        minds(x, 2, 1, 1);
        minds(x, 7, 0, NONE);
        x.keep();
        x.back();
        minds(x, 2, 1, 1);
        RemorseWall late = Scenes.inYear(999, "r5;c0,0,2,0;m0,9,9,0;");
        late.see(0, 9);
        minds(late, 2, 1, 1);
        e.leaves("mind(2, 1)", Scenes::lived, w -> w.mind(2, 1), 2);
    }

    private void howManySets() {
        e.sentence("Terms 4", "how many; the lowest as bits; none.");
        for (int cases = 0; cases <= 6; cases++) {
            String text = "r0;" + Scenes.times("c0,0,1,0;", cases);
            minds(Due.laid(text), 1, 1 << cases, 0);
            minds(seeing(text, cases), 1, 1, (1 << cases) - 1);
            minds(seeing(text, cases + 1), 1, 0, NONE);
            minds(seeing(text, 0), 1, 1, 0);
            if (cases > 0) {
                minds(seeing(text, 1), 1, cases, 1);
                minds(seeing(text, cases - 1), 1, cases, (1 << cases - 1) - 1);
            }
        }
        minds(seeing("r0;c0,0,2,0;c0,0,1,0;c0,0,1,0;", 2), 1, 2, 1);
        minds(seeing("r0;c0,0,1,0;c0,0,1,0;c0,0,2,0;", 2), 1, 2, 3);
        minds(seeing("r0;c0,0,1,0;c0,0,2,0;c0,0,3,0;c0,0,4,0;c0,0,5,0;c0,0,9,0;", 9), 1, 4, 14);
        minds(seeing("r0;c0,0,1,0;c0,0,1,0;c0,0,1,0;c0,0,1,0;c0,0,1,0;c0,0,9,0;", 9), 1, 1, 32);
    }

    private void deepFor() {
        e.sentence("Terms 4", "DEEP for a CASE, n: how many D (1 to 9) of that CASE, ");
        for (int d = 0; d <= 10; d++) {
            RemorseWall x = seeing("r0;c0,0,5,0;", d);
            boolean can = d >= 1 && d <= 9;
            deeps(x, 0, 1, can ? 1 : 0, can ? d : NONE);
            e.due("told as ahead", x.matter(0, 2), 5);
        }
        for (int n = 1; n <= 20; n++) {
            deeps(seeing("r0;c0,0,9,0;", n), 0, n, 1, 1);
            e.due("n = 0", seeing("r0;c0,0,9,0;", n).deep(0, 0, 0), BAD);
            e.due("n = 21", seeing("r0;c0,0,9,0;", n).deep(0, 21, 0), BAD);
        }
        deeps(seeing("r0;c0,0,9,19;", 7), 0, 20, 1, 7);
        deeps(seeing("r0;c0,0,9,19;", 7), 0, 19, 0, NONE);
        deeps(seeing("r0;c0,0,9,19;", 0), 0, 19, 9, 1);
    }

    private void deepLikewise() {
        e.sentence("Terms 4", "all others as told, likewise, by which all that is SEEN would be so; ");
        RemorseWall x = seeing("r1;c0,0,2,0;c0,0,4,0;m0,9,9,0;", 10);
        deeps(x, 0, 1, 1, 5);
        deeps(x, 1, 1, 1, 7);
        x.pardon(0);
        deeps(x, 1, 1, 1, 7);
        deeps(x, 0, 1, 1, 5);
        x.stroke(0, 0);
        x.pass(3);
        deeps(x, 0, 1, 1, 5);
        x.see(0, 9);
        deeps(x, 0, 1, 0, NONE);
        RemorseWall six = seeing("r0;" + Scenes.times("c0,0,2,0;", 6), 19);
        for (int c = 0; c < 6; c++) {
            deeps(six, c, 1, 1, 9);
        }
        RemorseWall none = seeing("r0;" + Scenes.times("c0,0,2,0;", 6), 10);
        for (int c = 0; c < 6; c++) {
            deeps(none, c, 1, 0, NONE);
        }
        e.leaves("deep(0, 1, 1)", Scenes::lived, w -> w.deep(0, 1, 1), 3);
    }

    private void howManyDepths() {
        e.sentence("Terms 4", "the least; none.");
        deeps(Due.laid("r0;c0,0,5,0;"), 0, 1, 9, 1);
        int[] halves = {0, 1, 2, 3, 4, 5};
        int[] vines = {1, 2, 2, 2, 2, 0};
        int[] leastVine = {1, 2, 4, 6, 8, NONE};
        for (int i = 0; i < halves.length; i++) {
            RemorseWall x = Due.laid("r00;c1,0,5,0;");
            x.see(1, halves[i]);
            deeps(x, 0, 1, vines[i], leastVine[i]);
            RemorseWall y = Due.laid("r00;c2,0,5,0;");
            y.see(1, halves[i] + 1);
            deeps(y, 0, 1, vines[i], leastVine[i]);
        }
        RemorseWall top = seeing("r0;c0,0,1,0;", 40);
        deeps(top, 0, 20, 8, 2);
        deeps(top, 0, 5, 2, 8);
        deeps(top, 0, 4, 0, NONE);
        RemorseWall door = seeing("r0;c3,0,1,0;", 24);
        deeps(door, 0, 3, 1, 6);
    }

    // ---- promises 19 to 22.

    private void see() {
        e.sentence("Promise 19", "SEEN: how many.");
        RemorseWall x = Due.laid(Scenes.times("r000000;", 4) + "c0,0,1,0;");
        int[] cells = {0, 23, 5, 6, 0, 11, 17, 23};
        int[] high = {0, 40, 1, 39, 0, 20, 2, 40};
        for (int i = 0; i < 8; i++) {
            e.due("see(" + cells[i] + ", " + high[i] + ")", x.see(cells[i], high[i]), i + 1);
            e.due("how many", x.count(9), i + 1);
        }
        e.due("what stands does not change", x.count(5), 0);
        e.due("nothing to undo by it", x.count(10), 0);
    }

    private static RemorseWall fullOfSeen() {
        RemorseWall x = Scenes.lived();
        for (int h = 1; h <= 6; h++) {
            x.see(h - 1, h);
        }
        return x;
    }

    private void seeRefused() {
        e.sentence("Promise 19", "BAD; FULL.");
        for (int cell : new int[] {-1, 6, 7, 24}) {
            e.leaves("see(" + cell + ", 0)", Scenes::lived, x -> x.see(cell, 0), BAD);
            e.leaves("full, see(" + cell + ", 0)", MindEdgesTest::fullOfSeen, x -> x.see(cell, 0), BAD);
        }
        for (int h : new int[] {-1, 41, 42, 100}) {
            e.leaves("see(0, " + h + ")", Scenes::lived, x -> x.see(0, h), BAD);
            e.leaves("full, see(0, " + h + ")", MindEdgesTest::fullOfSeen, x -> x.see(0, h), BAD);
        }
        for (int far : Edges.FAR) {
            e.leaves("see(" + far + ", 0)", Scenes::lived, x -> x.see(far, 0), BAD);
            e.leaves("see(0, " + far + ")", Scenes::lived, x -> x.see(0, far), BAD);
        }
        for (int h : new int[] {0, 40}) {
            e.leaves("full, see(0, " + h + ")", MindEdgesTest::fullOfSeen, x -> x.see(0, h), FULL);
            e.leaves("full, see(5, " + h + ")", MindEdgesTest::fullOfSeen, x -> x.see(5, h), FULL);
        }
    }

    private void forget() {
        e.sentence("Promise 20", "Nothing is SEEN: how many were.");
        e.leaves("forget() of nothing", () -> Due.laid(Scenes.LIVED), x -> x.forget(), 0);
        RemorseWall x = fullOfSeen();
        e.due("forget() of eight", x.forget(), 8);
        e.due("how many then", x.count(9), 0);
        e.due("forget() again", x.forget(), 0);
        minds(x, 20, 8, 0);
        for (int n = 1; n <= 8; n++) {
            e.due("room again, see number " + n, x.see(0, 5), n);
        }
        e.due("and no more", x.see(0, 5), FULL);
        RemorseWall y = Scenes.lived();
        e.due("forget() of two", y.forget(), 2);
        y.see(1, 6);
        y.see(0, 5);
        e.same("all else stays", y, Scenes.lived());
    }

    private void mind() {
        e.sentence("Promise 21", "MIND: how many (what = 0), the lowest (1; bits; NONE).");
        minds(Scenes.lived(), 1, 4, 1);
        minds(Scenes.lived(), 2, 2, 2);
        minds(Scenes.lived(), 3, 0, NONE);
        minds(Scenes.lived(), 20, 0, NONE);
        for (int n : new int[] {1, 20}) {
            e.leaves("mind(" + n + ", 0)", Scenes::lived, x -> x.mind(n, 0), n == 1 ? 4 : 0);
            e.leaves("mind(" + n + ", 1)", Scenes::lived, x -> x.mind(n, 1), n == 1 ? 1 : NONE);
        }
    }

    private void mindRefused() {
        e.sentence("Promise 21", "BAD.");
        for (int n : new int[] {-1, 0, 21, 22}) {
            e.leaves("mind(" + n + ", 0)", Scenes::lived, x -> x.mind(n, 0), BAD);
            e.leaves("mind(" + n + ", 1)", Scenes::lived, x -> x.mind(n, 1), BAD);
        }
        for (int what : new int[] {-1, 2, 3}) {
            e.leaves("mind(1, " + what + ")", Scenes::lived, x -> x.mind(1, what), BAD);
            e.leaves("none, mind(3, " + what + ")", Scenes::lived, x -> x.mind(3, what), BAD);
        }
        for (int far : Edges.FAR) {
            e.leaves("mind(" + far + ", 0)", Scenes::lived, x -> x.mind(far, 0), BAD);
            e.leaves("mind(1, " + far + ")", Scenes::lived, x -> x.mind(1, far), BAD);
        }
    }

    private void deep() {
        e.sentence("Promise 22", "DEEP: how many (what = 0), the least (1; NONE).");
        deeps(Scenes.lived(), 0, 1, 1, 3);
        deeps(Scenes.lived(), 1, 1, 9, 1);
        deeps(Scenes.lived(), 2, 1, 9, 1);
        deeps(Scenes.lived(), 0, 2, 0, NONE);
        deeps(Scenes.lived(), 2, 20, 0, NONE);
        for (int n : new int[] {1, 20}) {
            e.leaves("deep(0, " + n + ", 0)", Scenes::lived, x -> x.deep(0, n, 0), n == 1 ? 1 : 0);
            e.leaves("deep(2, " + n + ", 1)", Scenes::lived, x -> x.deep(2, n, 1), n == 1 ? 1 : NONE);
        }
    }

    private void deepRefused() {
        e.sentence("Promise 22", "BAD.");
        for (int c : new int[] {-1, 3, 4, 6}) {
            e.leaves("deep(" + c + ", 1, 0)", Scenes::lived, x -> x.deep(c, 1, 0), BAD);
            e.leaves("none, deep(" + c + ", 20, 1)", Scenes::lived, x -> x.deep(c, 20, 1), BAD);
        }
        for (int n : new int[] {-1, 0, 21, 22}) {
            e.leaves("deep(0, " + n + ", 0)", Scenes::lived, x -> x.deep(0, n, 0), BAD);
            e.leaves("deep(2, " + n + ", 1)", Scenes::lived, x -> x.deep(2, n, 1), BAD);
        }
        for (int what : new int[] {-1, 2, 3}) {
            e.leaves("deep(0, 1, " + what + ")", Scenes::lived, x -> x.deep(0, 1, what), BAD);
            e.leaves("none, deep(0, 20, " + what + ")", Scenes::lived, x -> x.deep(0, 20, what), BAD);
        }
        for (int far : Edges.FAR) {
            e.leaves("deep(" + far + ", 1, 0)", Scenes::lived, x -> x.deep(far, 1, 0), BAD);
            e.leaves("deep(0, " + far + ", 0)", Scenes::lived, x -> x.deep(0, far, 0), BAD);
            e.leaves("deep(0, 1, " + far + ")", Scenes::lived, x -> x.deep(0, 1, far), BAD);
        }
        e.due("no case at all", Due.laid("r1;").deep(0, 1, 0), BAD);
    }
}
