import java.math.BigInteger;

/** The edges of Terms 4 on slips, evenings and what is kept, and of promises 23 to 27. */
public final class SlipEdgesTest {
    private static final int BAD = Edges.BAD, NO = Edges.NO, FULL = Edges.FULL;

    private final Edges e;

    private SlipEdgesTest(Edges e) {
        this.e = e;
    }

    public static void main(String[] args) {
        Edges e = new Edges("SlipEdgesTest");
        all(e);
        e.end();
    }

    static void all(Edges e) {
        SlipEdgesTest t = new SlipEdgesTest(e);
        t.strokesAtOneCell();
        t.whereverSheIs();
        t.slipsOfTen();
        t.chanceByKind();
        t.lowestTerms();
        t.evenings();
        t.yearIfItCan();
        t.pardonIfThereAre();
        t.strokeIfItCan();
        t.draws();
        t.standsThen();
        t.keptAll();
        t.seenAndTextStay();
        t.nothingUndone();
        t.twoAtMost();
        t.slip();
        t.slipRefused();
        t.evening();
        t.eveningRefused();
        t.keep();
        t.keepRefused();
        t.back();
        t.backRefused();
        t.count();
        t.countRefused();
    }

    private void slips(RemorseWall x, int m, int cell, int n, int t, int above, int below) {
        String told = "slip(" + m + ", " + cell + ", " + n + ", " + t + ", ";
        e.due(told + "0)", x.slip(m, cell, n, t, 0), above);
        e.due(told + "1)", x.slip(m, cell, n, t, 1), below);
    }

    private void evenings(RemorseWall x, int z, int n, int sum, int hollow) {
        e.due("evening(" + z + ", " + n + ", 0)", x.evening(z, n, 0), sum);
        e.due("evening(" + z + ", " + n + ", 1)", x.evening(z, n, 1), hollow);
    }

    // ---- Terms 4: slips.

    private void strokesAtOneCell() {
        e.sentence("Terms 4", "SLIP: a MAID gives n (0 to 8) STROKES at one CELL");
        for (int h = 0; h <= 9; h++) {
            RemorseWall x = Due.laid("r9" + h + "9;m0,1,9,0;");
            for (int n = 0; n <= 8; n++) {
                slips(x, 0, 1, n, 0, n >= h ? 1 : 0, 1);
            }
            e.due("one stroke too few", x.slip(0, 1, -1, 0, 0), BAD);
            e.due("one stroke too many", x.slip(0, 1, 9, 0, 0), BAD);
        }
        slips(Due.laid("r00;m0,9,9,0;"), 0, 1, 0, 5, 1, 1);
        slips(Due.laid("r01;m0,9,9,0;"), 0, 1, 0, 5, 0, 1);
    }

    private void whereverSheIs() {
        e.sentence("Terms 4", "(wherever she is, whatever she has left)");
        RemorseWall x = Due.laid("r200000;r000000;r000000;r000003;m0,1,1,0;");
        slips(x, 0, 0, 2, 5, 1, 4);
        slips(x, 0, 23, 3, 5, 1, 8);
        x.stroke(0, 1);
        e.due("none left", x.maid(0, 2), 0);
        slips(x, 0, 0, 2, 5, 1, 4);
        slips(x, 0, 23, 3, 5, 1, 8);
        slips(x, 0, 23, 8, 0, 1, 1);
    }

    private void slipsOfTen() {
        e.sentence("Terms 4", ", each slips by t (0 to 10) of ten, for itself (it takes off nothing): ");
        int[] above = {1, 9, 4, 7, 3, 1, 2, 3, 1, 1, 0};
        int[] below = {1, 10, 5, 10, 5, 2, 5, 10, 5, 10, 1};
        RemorseWall x = Due.laid("r380;m0,3,1,0;m0,1,1,0;");
        for (int t = 0; t <= 10; t++) {
            slips(x, 0, 0, 1, t, above[t], below[t]);
            slips(x, 0, 2, 1, t, 1, 1);
        }
        e.due("t one too low", x.slip(0, 0, 1, -1, 0), BAD);
        e.due("t one too high", x.slip(0, 0, 1, 11, 0), BAD);
        slips(x, 1, 1, 8, 0, 1, 1);
        slips(x, 1, 1, 8, 10, 0, 1);
        slips(x, 1, 1, 8, 9, 1, 100000000);
        slips(x, 1, 1, 8, 5, 1, 256);
        slips(x, 1, 1, 8, 1, 43046721, 100000000);
        slips(x, 1, 1, 7, 1, 0, 1);
        // Of two strokes, one has to hit: all but the chance that both slip.
        slips(x, 0, 0, 2, 1, 99, 100);
        slips(x, 0, 0, 8, 1, 99999999, 100000000);
        slips(x, 0, 0, 8, 9, 56953279, 100000000);
    }

    private void chanceByKind() {
        e.sentence("Terms 4", "the chance that it is 0 HIGH then, ");
        // Thorough: what she takes off behind a cell does not bear on it.
        slips(Due.laid("r05;m1,5,1,0;"), 0, 1, 1, 5, 1, 2);
        slips(Due.laid("r06;m1,5,1,0;"), 0, 1, 1, 5, 0, 1);
        slips(Due.laid("r06;m1,5,1,0;"), 0, 1, 2, 5, 1, 4);
        slips(Due.laid("r5;m2,9,1,0;"), 0, 0, 1, 5, 1, 2);
        slips(Due.laid("r6;m2,9,1,0;"), 0, 0, 1, 5, 0, 1);
        slips(Scenes.stands(11, ";", "m3,6,1,0;"), 0, 0, 1, 5, 1, 2);
        slips(Scenes.stands(11, ";", "m3,5,1,0;"), 0, 0, 2, 5, 1, 4);
        slips(Scenes.stands(12, ";", "m3,9,1,0;"), 0, 0, 8, 0, 0, 1);
        slips(Scenes.stands(40, ";", "m3,9,1,0;"), 0, 0, 8, 0, 0, 1);
        slips(Scenes.stands(40, ";", "m0,5,1,0;"), 0, 0, 8, 0, 1, 1);
        slips(Scenes.stands(40, ";", "m0,4,1,0;"), 0, 0, 8, 0, 0, 1);
    }

    private void lowestTerms() {
        e.sentence("Terms 4", "in lowest terms.");
        RemorseWall x = Due.laid("r2;m0,1,1,0;m0,2,1,0;");
        slips(x, 1, 0, 1, 2, 4, 5);
        slips(x, 1, 0, 1, 5, 1, 2);
        slips(x, 1, 0, 2, 5, 3, 4);
        slips(x, 1, 0, 2, 6, 16, 25);
        slips(x, 0, 0, 2, 2, 16, 25);
        slips(x, 0, 0, 3, 5, 1, 2);
        slips(x, 0, 0, 1, 5, 0, 1);
        slips(x, 0, 0, 8, 10, 0, 1);
        slips(x, 0, 0, 8, 0, 1, 1);
        for (int h = 0; h <= 3; h++) {
            RemorseWall y = Due.laid("r" + h + ";m0,1,1,0;");
            for (int n = 0; n <= 8; n++) {
                for (int t = 0; t <= 10; t++) {
                    chance(y, h, n, t);
                }
            }
        }
    }

    /** At least h of n strokes have to hit: the sum over the binomials, reduced. */
    private void chance(RemorseWall x, int h, int n, int t) {
        BigInteger above = BigInteger.ZERO;
        for (int hits = h; hits <= n; hits++) {
            BigInteger ways = BigInteger.ONE;
            for (int i = 0; i < hits; i++) {
                ways = ways.multiply(BigInteger.valueOf(n - i)).divide(BigInteger.valueOf(i + 1));
            }
            BigInteger each = BigInteger.valueOf(10 - t).pow(hits).multiply(BigInteger.valueOf(t).pow(n - hits));
            above = above.add(ways.multiply(each));
        }
        BigInteger below = BigInteger.TEN.pow(n);
        BigInteger shared = above.gcd(below);
        slips(x, 0, 0, n, t, above.divide(shared).intValueExact(), below.divide(shared).intValueExact());
    }

    // ---- Terms 4: evenings.

    private static int draw(int z, int k) {
        BigInteger x = BigInteger.valueOf(7919).multiply(BigInteger.valueOf(z));
        x = x.add(BigInteger.valueOf(6151).multiply(BigInteger.valueOf(k))).add(BigInteger.ONE);
        return x.multiply(x).mod(BigInteger.valueOf(65521)).intValueExact();
    }

    /** How high one cell is behind an evening that six cases, all of depth 1 and of one cell, stand in. */
    private static int ofSixCases(int z, int n) {
        int pardoned = 0;
        int high = 0;
        for (int k = 0; k < n; k++) {
            if (draw(z, k) % 8 == 6) {
                pardoned |= 1 << draw(z, k) / 8 % 6;
            } else if (draw(z, k) % 8 == 7) {
                high = Math.min(40, high + 6 - Integer.bitCount(pardoned));
            }
        }
        return high;
    }

    private void evenings() {
        e.sentence("Terms 4", "An EVENING by z (0 to 9999) of n (1 to 60) from now on (nothing changes by it): "
                + "in the k-th (0 first), ");
        String text = "r0;" + Scenes.times("c0,0,1,0;", 6);
        for (int z : new int[] {0, 1, 2, 3, 4, 10, 531, 571, 4999, 5000, 6628, 9997, 9998, 9999}) {
            RemorseWall x = Due.laid(text);
            for (int n = 1; n <= 60; n++) {
                int high = ofSixCases(z, n);
                evenings(x, z, n, high, high >= 12 ? 1 : 0);
            }
            e.due("n one too low", x.evening(z, 0, 0), BAD);
            e.due("n one too high", x.evening(z, 61, 0), BAD);
        }
        RemorseWall y = Due.laid(text);
        for (int n : new int[] {1, 60}) {
            e.due("z one too low", y.evening(-1, n, 0), BAD);
            e.due("z one too high", y.evening(10000, n, 0), BAD);
        }
        // By 10 the last of 60 draws is a year, by 4 the first one.
        e.due("the last draw by 10", draw(10, 59) % 8, 7);
        e.due("the first draw by 4", draw(4, 0) % 8, 7);
        evenings(Due.laid("r0;c0,0,9,0;"), 4, 1, 9, 0);
        e.leaves("evening(4, 1, 0)", Scenes::lived, x -> x.evening(4, 1, 0), 54);
        e.leaves("evening(4, 1, 1)", Scenes::lived, x -> x.evening(4, 1, 1), 2);
    }

    private void yearIfItCan() {
        e.sentence("Terms 4", "if DRAW modulo 8 is 7, a YEAR goes by (if it can), ");
        String text = "r0;c0,0,1,0;m0,9,1,0;";
        for (int z : new int[] {4, 12, 18, 9985, 9994, 9999}) {
            e.due("the first draw by " + z, draw(z, 0) % 8, 7);
            evenings(Due.laid(text), z, 1, 1, 0);
            RemorseWall x = Scenes.inYear(998, text);
            x.stroke(0, 0);
            e.due("in year 998", x.evening(z, 1, 0), 32);
            RemorseWall y = Scenes.inYear(999, text);
            y.stroke(0, 0);
            e.due("in year 999", y.evening(z, 1, 0), 31);
        }
        // The first of these by 0 is a stroke, the second a year, the fourth would be one.
        RemorseWall last = Scenes.inYear(998, "r00;c0,0,9,0;m0,9,1,1;");
        last.stroke(0, 0);
        e.due("it stands in year 998", last.high(0), 31);
        e.due("one year can go by", last.evening(0, 2, 0), 40);
    }

    private void pardonIfThereAre() {
        e.sentence("Terms 4", "if 6, CASE (DRAW by 8, cut) modulo as many as there are is PARDONED, ");
        // By 52: 63454, that is case 7931 (of six: 5), then a year. By 105: case 1556 (of six: 2), then one.
        RemorseWall six = Due.laid("r0;c0,0,1,0;c0,0,2,0;c0,0,3,0;c0,0,4,0;c0,0,5,0;c0,0,6,0;");
        evenings(six, 52, 1, 0, 0);
        evenings(six, 52, 2, 15, 1);
        evenings(six, 105, 2, 18, 1);
        // Of five: 1 and 1; of four: 3 and 0; of three: 2 and 2; of two: 1 and 0; of one: 0 and 0.
        evenings(Due.laid("r0;c0,0,1,0;c0,0,2,0;c0,0,3,0;c0,0,4,0;c0,0,5,0;"), 52, 2, 13, 1);
        evenings(Due.laid("r0;c0,0,1,0;c0,0,2,0;c0,0,3,0;c0,0,4,0;"), 52, 2, 6, 0);
        evenings(Due.laid("r0;c0,0,1,0;c0,0,2,0;c0,0,3,0;c0,0,4,0;"), 105, 2, 9, 0);
        evenings(Due.laid("r0;c0,0,1,0;c0,0,2,0;c0,0,3,0;"), 52, 2, 3, 0);
        evenings(Due.laid("r0;c0,0,1,0;c0,0,2,0;"), 52, 2, 1, 0);
        evenings(Due.laid("r0;c0,0,1,0;c0,0,2,0;"), 105, 2, 2, 0);
        evenings(Due.laid("r0;c0,0,1,0;"), 52, 2, 0, 0);
        evenings(Due.laid("r5;m0,1,1,0;"), 52, 1, 5, 0);
        evenings(Due.laid("r5;m0,1,1,0;"), 52, 2, 5, 0);
        six.pardon(5);
        evenings(six, 52, 2, 15, 1);
        six.pardon(2);
        evenings(six, 105, 2, 12, 1);
    }

    private void strokeIfItCan() {
        e.sentence("Terms 4", "else MAID (DRAW by 8, cut) modulo as many gives a STROKE at CELL (DRAW by 64, cut) "
                + "modulo as many; each if there are such, and it can be; ");
        // The first draws by these, modulo 8, are 0, 1, 2, 3, 4 and 5: each is a stroke.
        int[] byRest = {5, 0, 16, 1, 15, 2};
        for (int rest = 0; rest < 6; rest++) {
            e.due("the first draw by " + byRest[rest], draw(byRest[rest], 0) % 8, rest);
            evenings(Due.laid("r9;m0,2,1,0;"), byRest[rest], 1, 7, 0);
            evenings(Due.laid("r9;"), byRest[rest], 1, 9, 0);
            evenings(Due.laid("r9;c0,0,9,0;"), byRest[rest], 1, 9, 0);
            RemorseWall none = Due.laid("r9;m0,2,1,0;");
            none.stroke(0, 0);
            evenings(none, byRest[rest], 1, 7, 0);
        }
        // By 1 the first draw is 22803: maid 2850, cell 356 (of 24: 20, of 4: 0, of 3: 2).
        evenings(Due.laid("r999;m0,1,1,2;"), 1, 1, 26, 0);
        evenings(Due.laid("r999;m0,1,1,1;"), 1, 1, 26, 0);
        evenings(Due.laid("r999;m0,1,1,0;"), 1, 1, 27, 0);
        evenings(Due.laid("r99;r99;m0,1,1,3;"), 1, 1, 36, 0);
        evenings(Due.laid("r99;r99;m0,1,1,2;"), 1, 1, 35, 0);
        evenings(Due.laid("r9;m0,1,1,0;m0,2,1,0;"), 1, 1, 8, 0);
        // By 2 it is 59533: maid 7441 (of two: 1, of three: 1).
        evenings(Due.laid("r9;m0,1,1,0;m0,2,1,0;"), 2, 1, 7, 0);
        evenings(Due.laid("r9;m0,1,1,0;m0,2,1,0;m0,3,1,0;"), 2, 1, 7, 0);
    }

    private void draws() {
        e.sentence("Terms 4", "DRAW being (x times x) modulo 65521, x 7919 z, 6151 k and 1 together: ");
        int[][] first = {{1, 41487, 10299, 37479}, {22803, 54100, 12723, 29714}, {59533, 15120, 29075, 35877}};
        for (int z = 0; z < 3; z++) {
            for (int k = 0; k < 4; k++) {
                e.due("by " + z + " draw " + k, draw(z, k), first[z][k]);
            }
        }
        e.due("by 9999 the first", draw(9999, 0), 51303);
        e.due("the largest there is, by 9750 the 46th", draw(9750, 45), 65520);
        RemorseWall x = Due.laid("r0;" + Scenes.times("c0,0,1,0;", 6));
        for (int z = 0; z <= 9999; z += 101) {
            e.due("evening(" + z + ", 60, 0)", x.evening(z, 60, 0), ofSixCases(z, 60));
        }
    }

    private void standsThen() {
        e.sentence("Terms 4", "how much stands in sum then; how many CELLS are HOLLOW.");
        // By 4 the first draw is a year.
        evenings(Due.laid("r9;c0,0,2,0;"), 4, 1, 11, 0);
        evenings(Due.laid("r9;c0,0,3,0;"), 4, 1, 12, 1);
        evenings(Due.laid("r99;r99;c0,0,3,0;c0,1,3,0;c0,2,2,0;c0,3,9,0;"), 4, 1, 53, 3);
        evenings(Due.laid("r0;"), 4, 60, 0, 0);
        RemorseWall top = Scenes.stands(40, ";", "c0,0,9,0;");
        evenings(top, 4, 1, 40, 1);
    }

    // ---- Terms 4: what is kept.

    private void keptAll() {
        e.sentence("Terms 4", "KEPT is all as it stands, ");
        RemorseWall x = Scenes.lived();
        x.back();
        x.keep();
        x.stroke(0, 1);
        x.stroke(0, 2);
        x.stroke(1, 5);
        x.pardon(0);
        x.pardon(2);
        x.pass(20);
        x.stroke(0, 2);
        x.back();
        RemorseWall y = Scenes.lived();
        y.back();
        e.same("wall, year, pardons, strokes and where they are", x, y);
        RemorseWall z = Scenes.inYear(999, "r0;c0,0,1,0;");
        z.keep();
        for (int i = 0; i < 8; i++) {
            z.undo();
        }
        z.pardon(0);
        e.due("of year 999", z.back(), 0);
        e.due("the year", z.count(4), 999);
        e.due("not pardoned", z.count(7), 1);
        e.due("the wall", z.high(0), 40);
    }

    private void seenAndTextStay() {
        e.sentence("Terms 4", "but what is SEEN and THE TEXT (these stay by back(), ");
        RemorseWall x = Due.laid("r0;c0,0,1,0;");
        x.keep();
        x.see(0, 1);
        x.write('r');
        e.due("back()", x.back(), 0);
        e.due("what is seen stays", x.count(9), 1);
        e.due("what it is", x.mind(1, 1), 1);
        e.due("the text stays", x.count(12), 13);
        RemorseWall y = Due.laid("r0;c0,0,1,0;");
        y.see(0, 1);
        y.keep();
        y.forget();
        y.wipe();
        e.due("back() again", y.back(), 0);
        e.due("nothing is seen all the same", y.count(9), 0);
        e.due("nor is there a text", y.count(12), 0);
    }

    private void nothingUndone() {
        e.sentence("Terms 4", "behind which nothing can be UNDONE): ");
        RemorseWall x = Due.laid("r0;c0,0,1,0;");
        x.pass(1);
        x.keep();
        e.due("behind keep() it can", x.count(10), 1);
        x.pass(1);
        x.back();
        e.due("how many can be", x.count(10), 0);
        e.due("undo()", x.undo(), NO);
        e.due("the year", x.count(4), 1);
        x.pass(2);
        e.due("what comes then can", x.undo(), 0);
        e.due("but no more", x.undo(), NO);
        e.due("the year still", x.count(4), 1);
    }

    private void twoAtMost() {
        e.sentence("Terms 4", "2 at most.");
        RemorseWall x = Due.laid("r0;c0,0,1,0;");
        e.due("one", x.keep(), 1);
        x.pass(1);
        e.due("two", x.keep(), 2);
        x.pass(1);
        e.due("no third", x.keep(), FULL);
        e.due("how many", x.count(11), 2);
        e.due("the later one comes back", x.back(), 1);
        e.due("its year", x.count(4), 1);
        e.due("there is room for one", x.keep(), 2);
        e.due("and no more", x.keep(), FULL);
        x.back();
        e.due("the first one", x.back(), 0);
        e.due("its year too", x.count(4), 0);
        e.due("none is kept", x.back(), NO);
        e.due("one anew", x.keep(), 1);
    }

    // ---- promises 23 to 27.

    private void slip() {
        e.sentence("Promise 23", "SLIP: above (part = 0), below (1).");
        slips(Scenes.lived(), 0, 1, 4, 5, 1, 16);
        slips(Scenes.lived(), 0, 1, 3, 0, 0, 1);
        slips(Scenes.lived(), 1, 5, 2, 3, 49, 100);
        slips(Scenes.lived(), 1, 1, 8, 0, 0, 1);
        e.leaves("slip(0, 1, 8, 1, 0)", Scenes::lived, x -> x.slip(0, 1, 4, 5, 0), 1);
        e.leaves("slip(1, 5, 2, 3, 1)", Scenes::lived, x -> x.slip(1, 5, 2, 3, 1), 100);
    }

    private void slipRefused() {
        e.sentence("Promise 23", "BAD.");
        for (int m : new int[] {-1, 2, 3}) {
            e.leaves("slip(" + m + ", 0, 0, 0, 0)", Scenes::lived, x -> x.slip(m, 0, 0, 0, 0), BAD);
        }
        for (int cell : new int[] {-1, 6, 7, 24}) {
            e.leaves("slip(0, " + cell + ", 0, 0, 0)", Scenes::lived, x -> x.slip(0, cell, 0, 0, 0), BAD);
        }
        for (int n : new int[] {-1, 9, 10}) {
            e.leaves("slip(0, 0, " + n + ", 0, 0)", Scenes::lived, x -> x.slip(0, 0, n, 0, 0), BAD);
        }
        for (int t : new int[] {-1, 11, 12}) {
            e.leaves("slip(0, 0, 8, " + t + ", 0)", Scenes::lived, x -> x.slip(0, 0, 8, t, 0), BAD);
        }
        for (int part : new int[] {-1, 2, 3}) {
            e.leaves("slip(0, 0, 8, 10, " + part + ")", Scenes::lived, x -> x.slip(0, 0, 8, 10, part), BAD);
        }
        for (int far : Edges.FAR) {
            e.leaves("slip(" + far + ", 0, 0, 0, 0)", Scenes::lived, x -> x.slip(far, 0, 0, 0, 0), BAD);
            e.leaves("slip(0, " + far + ", 0, 0, 0)", Scenes::lived, x -> x.slip(0, far, 0, 0, 0), BAD);
            e.leaves("slip(0, 0, " + far + ", 0, 0)", Scenes::lived, x -> x.slip(0, 0, far, 0, 0), BAD);
            e.leaves("slip(0, 0, 0, " + far + ", 0)", Scenes::lived, x -> x.slip(0, 0, 0, far, 0), BAD);
            e.leaves("slip(0, 0, 0, 0, " + far + ")", Scenes::lived, x -> x.slip(0, 0, 0, 0, far), BAD);
        }
        e.due("no maid at all", Due.laid("r0;").slip(0, 0, 0, 0, 0), BAD);
    }

    private void evening() {
        e.sentence("Promise 24", "An EVENING: in sum (what = 0), HOLLOW (1).");
        e.leaves("evening(4, 1, 0)", Scenes::lived, x -> x.evening(4, 1, 0), 54);
        e.leaves("evening(4, 1, 1)", Scenes::lived, x -> x.evening(4, 1, 1), 2);
        e.leaves("evening(52, 1, 0)", Scenes::lived, x -> x.evening(52, 1, 0), 47);
        e.leaves("evening(52, 1, 1)", Scenes::lived, x -> x.evening(52, 1, 1), 2);
    }

    private void eveningRefused() {
        e.sentence("Promise 24", "BAD.");
        for (int z : new int[] {-1, -2, 10000, 10001}) {
            e.leaves("evening(" + z + ", 1, 0)", Scenes::lived, x -> x.evening(z, 1, 0), BAD);
        }
        for (int n : new int[] {-1, 0, 61, 62}) {
            e.leaves("evening(0, " + n + ", 0)", Scenes::lived, x -> x.evening(0, n, 0), BAD);
        }
        for (int what : new int[] {-1, 2, 3}) {
            e.leaves("evening(0, 1, " + what + ")", Scenes::lived, x -> x.evening(0, 1, what), BAD);
            e.leaves("evening(9999, 60, " + what + ")", Scenes::lived, x -> x.evening(9999, 60, what), BAD);
        }
        for (int far : Edges.FAR) {
            e.leaves("evening(" + far + ", 1, 0)", Scenes::lived, x -> x.evening(far, 1, 0), BAD);
            e.leaves("evening(0, " + far + ", 0)", Scenes::lived, x -> x.evening(0, far, 0), BAD);
            e.leaves("evening(0, 1, " + far + ")", Scenes::lived, x -> x.evening(0, 1, far), BAD);
        }
    }

    private void keep() {
        e.sentence("Promise 25", "KEPT: how many.");
        RemorseWall x = new RemorseWall();
        e.due("keep()", x.keep(), 1);
        e.due("how many", x.count(11), 1);
        e.due("keep() again", x.keep(), 2);
        e.due("how many then", x.count(11), 2);
        e.due("nothing to undo by it", x.count(10), 0);
        RemorseWall y = Due.laid("r9;c0,0,3,0;");
        y.keep();
        y.pass(1);
        y.undo();
        e.due("undo() leaves what is kept", y.count(11), 1);
        y.lay();
        e.due("lay() does not", y.count(11), 0);
        e.due("so there is room", y.keep(), 1);
    }

    private void keepRefused() {
        e.sentence("Promise 25", "FULL.");
        e.leaves("a third", Scenes::lived, x -> x.keep(), FULL);
        e.leaves("a fourth", SlipEdgesTest::refusedOnce, x -> x.keep(), FULL);
        e.same("refused once", refusedOnce(), Scenes.lived());
    }

    private static RemorseWall refusedOnce() {
        RemorseWall x = Scenes.lived();
        x.keep();
        return x;
    }

    private void back() {
        e.sentence("Promise 26", "As KEPT last (it is KEPT no more then): how many are left; nothing is UNDONE then.");
        RemorseWall x = Scenes.lived();
        e.due("back()", x.back(), 1);
        e.due("how many are left", x.count(11), 1);
        int[] last = {5, 9, 12, 3, 4, 7};
        for (int i = 0; i < 6; i++) {
            e.due("as kept last, high(" + i + ")", x.high(i), last[i]);
        }
        e.due("the year", x.count(4), 2);
        e.due("pardoned", x.matter(1, 4), 1);
        e.due("strokes", x.maid(1, 2), 1);
        e.due("where she is", x.maid(1, 3), 4);
        e.due("nothing is undone", x.undo(), NO);
        e.due("back() again", x.back(), 0);
        e.due("none is left", x.count(11), 0);
        e.due("as kept first", x.high(4), 8);
        e.due("not pardoned", x.matter(1, 4), 0);
        e.due("where she was", x.maid(1, 3), 5);
        e.due("her strokes", x.maid(1, 2), 2);
        e.due("nothing is undone still", x.undo(), NO);
        e.due("nor comes back", x.back(), NO);
    }

    private void backRefused() {
        e.sentence("Promise 26", "NO.");
        e.due("of a new object", new RemorseWall().back(), NO);
        e.leaves("of a wall that was never kept", SlipEdgesTest::neverKept, x -> x.back(), NO);
        e.leaves("when all came back", SlipEdgesTest::allBack, x -> x.back(), NO);
    }

    private static RemorseWall neverKept() {
        RemorseWall x = Due.laid(Scenes.LIVED);
        x.stroke(0, 0);
        x.pass(2);
        x.see(0, 5);
        return x;
    }

    private static RemorseWall allBack() {
        RemorseWall x = Scenes.lived();
        x.back();
        x.back();
        x.pass(1);
        return x;
    }

    private void count() {
        e.sentence("Promise 27", "How many: 0 CELLS, 1 in a row, 2 CASES, 3 MAIDS, 4 the YEAR, 5 how much stands in sum, "
                + "6 HOLLOW CELLS, 7 CASES that are not PARDONED, 8 STROKES left of all, 9 SEEN, 10 that can be UNDONE, "
                + "11 KEPT, 12 letters of THE TEXT.");
        int[] lived = {6, 3, 3, 2, 3, 47, 2, 2, 6, 2, 5, 2, 56};
        int[] spent = {6, 3, 3, 2, 3, 27, 1, 0, 0, 2, 8, 2, 56};
        int[] least = {1, 1, 0, 0, 0, 0, 0, 0, 0, 0, 0, 0, 3};
        for (int what = 0; what <= 12; what++) {
            int asked = what;
            e.leaves("count(" + what + ")", Scenes::lived, x -> x.count(asked), lived[what]);
            e.leaves("spent, count(" + what + ")", Scenes::spent, x -> x.count(asked), spent[what]);
            e.due("the least, count(" + what + ")", Due.laid("r0;").count(what), least[what]);
        }
        RemorseWall most = Scenes.inYear(999, Scenes.times("r999999;", 4) + "c0,0,9,0;c0,1,9,0;c0,2,9,0;c0,3,9,0;c0,4,9,0;"
                + "c0,5,9,0;m0,9,9,0;m0,9,9,23;m0,9,9,5;");
        most.keep();
        most.keep();
        for (int i = 0; i < 8; i++) {
            most.see(0, 0);
        }
        Due.write(most, Scenes.times(" ", 100));
        Due.write(most, Scenes.times(" ", 100));
        int[] mosts = {24, 6, 6, 3, 999, 402, 6, 6, 27, 8, 8, 2, 200};
        for (int what = 0; what <= 12; what++) {
            e.due("the most, count(" + what + ")", most.count(what), mosts[what]);
        }
        for (int h = 10; h <= 13; h++) {
            e.due("hollow at " + h, Scenes.stands(h, ";", "").count(6), h >= 12 ? 1 : 0);
        }
    }

    private void countRefused() {
        e.sentence("Promise 27", "BAD.");
        for (int what : new int[] {-1, -2, 13, 14, 100}) {
            e.leaves("count(" + what + ")", Scenes::lived, x -> x.count(what), BAD);
        }
        for (int far : Edges.FAR) {
            e.leaves("count(" + far + ")", Scenes::lived, x -> x.count(far), BAD);
        }
    }
}
