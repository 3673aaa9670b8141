/**
 * Promises 23 to 27, worked out by hand from the document: ordinary calls, the edges it names, and numbers that
 * are none.
 */
public final class SlipsTest {
    private static final int BAD = -1, NO = -2, FULL = -3;
    private static final int[] FAR = {-1, Integer.MIN_VALUE, Integer.MAX_VALUE};

    private static final Due DUE = new Due("SlipsTest");

    public static void main(String[] args) {
        slip();
        slipByKind();
        evening();
        eveningOfPardons();
        keep();
        back();
        count();
        DUE.end();
    }

    private static void due(String call, int got, int want) {
        DUE.due(call, got, want);
    }

    private static void slips(RemorseWall x, int m, int n, int t, int above, int below) {
        due("23: slip(" + m + ", 0, " + n + ", " + t + ", 0)", x.slip(m, 0, n, t, 0), above);
        due("23: slip(" + m + ", 0, " + n + ", " + t + ", 1)", x.slip(m, 0, n, t, 1), below);
    }

    private static void slip() {
        RemorseWall x = Due.laid("r600;m0,3,1,2;m0,6,1,2;");
        slips(x, 0, 0, 0, 0, 1);
        slips(x, 0, 1, 3, 0, 1);
        slips(x, 0, 2, 3, 49, 100);
        slips(x, 0, 3, 5, 1, 2);
        slips(x, 0, 2, 0, 1, 1);
        slips(x, 0, 2, 10, 0, 1);
        slips(x, 0, 8, 1, 99999927, 100000000);
        slips(x, 1, 1, 4, 3, 5);
        slips(x, 1, 2, 4, 21, 25);
        due("23: nothing changes", x.high(0), 6);
        due("23: nor where she is", x.maid(0, 3), 2);
        due("23: a smooth cell", x.slip(0, 1, 8, 10, 0), 1);
        due("23: a smooth cell, below", x.slip(0, 1, 8, 10, 1), 1);
        due("23: a smooth cell, no stroke", x.slip(0, 1, 0, 5, 0), 1);
        x.stroke(0, 2);
        slips(x, 0, 2, 3, 49, 100);
        due("23: slip(2, 0, 0, 0, 0)", x.slip(2, 0, 0, 0, 0), BAD);
        due("23: slip(0, 3, 0, 0, 0)", x.slip(0, 3, 0, 0, 0), BAD);
        due("23: slip(0, 0, 9, 0, 0)", x.slip(0, 0, 9, 0, 0), BAD);
        due("23: slip(0, 0, 0, 11, 0)", x.slip(0, 0, 0, 11, 0), BAD);
        due("23: slip(0, 0, 0, 0, 2)", x.slip(0, 0, 0, 0, 2), BAD);
        for (int far : FAR) {
            due("23: slip(" + far + ", 0, 0, 0, 0)", x.slip(far, 0, 0, 0, 0), BAD);
            due("23: slip(0, " + far + ", 0, 0, 0)", x.slip(0, far, 0, 0, 0), BAD);
            due("23: slip(0, 0, " + far + ", 0, 0)", x.slip(0, 0, far, 0, 0), BAD);
            due("23: slip(0, 0, 0, " + far + ", 0)", x.slip(0, 0, 0, far, 0), BAD);
            due("23: slip(0, 0, 0, 0, " + far + ")", x.slip(0, 0, 0, 0, far), BAD);
        }
    }

    private static void slipByKind() {
        RemorseWall x = Due.laid("r6;c0,0,6,0;m1,3,1,0;m2,3,1,0;m3,3,1,0;");
        slips(x, 0, 2, 5, 1, 4);
        slips(x, 1, 3, 5, 1, 8);
        slips(x, 1, 2, 5, 0, 1);
        slips(x, 2, 1, 5, 1, 2);
        x.pass(1);
        slips(x, 0, 4, 0, 1, 1);
        slips(x, 2, 8, 0, 0, 1);
    }

    private static void evenings(RemorseWall x, int z, int n, int sum, int hollow) {
        due("24: evening(" + z + ", " + n + ", 0)", x.evening(z, n, 0), sum);
        due("24: evening(" + z + ", " + n + ", 1)", x.evening(z, n, 1), hollow);
    }

    /** By 0 the first draws are 1 (maid 0, cell 0), 41487 (a year) and 10299 (maid 1287, cell 160). */
    private static void evening() {
        evenings(Due.laid("r50;m0,3,1,0;"), 0, 1, 2, 0);
        evenings(Due.laid("r50;m0,3,1,1;"), 0, 1, 2, 0);
        evenings(Due.laid("r509;m0,3,1,2;"), 0, 1, 14, 0);
        evenings(Due.laid("r50;m0,3,1,0;c0,1,9,0;c0,1,3,0;"), 0, 2, 14, 1);
        // 1287 of 2 maids is 1, 160 of 3 cells is 1: she has her stroke, as a year has gone by.
        evenings(Due.laid("r090;m0,3,1,2;m0,4,1,1;"), 0, 3, 5, 0);
        evenings(Due.laid("r9;c0,0,9,0;"), 0, 2, 18, 1);
        evenings(Due.laid("r12;"), 0, 60, 3, 0);
        // The first draw by 9999 is 51303: a year.
        evenings(Due.laid("r9;c0,0,9,0;"), 9999, 1, 18, 1);
        RemorseWall x = Due.laid("r0;c0,0,1,0;m0,1,1,0;");
        due("24: evening(-1, 1, 0)", x.evening(-1, 1, 0), BAD);
        due("24: evening(10000, 1, 0)", x.evening(10000, 1, 0), BAD);
        due("24: evening(0, 0, 0)", x.evening(0, 0, 0), BAD);
        due("24: evening(0, 61, 0)", x.evening(0, 61, 0), BAD);
        due("24: evening(0, 1, 2)", x.evening(0, 1, 2), BAD);
        for (int far : FAR) {
            due("24: evening(" + far + ", 1, 0)", x.evening(far, 1, 0), BAD);
            due("24: evening(0, " + far + ", 0)", x.evening(0, far, 0), BAD);
            due("24: evening(0, 1, " + far + ")", x.evening(0, 1, far), BAD);
        }
        for (int i = 0; i < 49; i++) {
            x.pass(20);
        }
        x.pass(18);
        x.stroke(0, 0);
        due("24: it stands", x.high(0), 39);
        evenings(x, 0, 2, 40, 1);
        due("24: the year stays", x.count(4), 998);
        x.pass(1);
        x.stroke(0, 0);
        due("24: it stands at last", x.high(0), 39);
        evenings(x, 0, 2, 39, 1);
        due("24: nothing can be undone by it", x.count(10), 8);
    }

    /** By 52 the first draws are 63454 (case 7931) and a year; by 105 12454 (case 1556) and one. */
    private static void eveningOfPardons() {
        RemorseWall x = Due.laid("r00;c0,0,4,0;c0,1,7,0;");
        evenings(x, 52, 1, 0, 0);
        evenings(x, 52, 2, 4, 0);
        evenings(x, 105, 2, 7, 0);
        due("24: nothing is pardoned", x.count(7), 2);
        evenings(Due.laid("r0;c0,0,4,0;"), 52, 2, 0, 0);
        x.pardon(0);
        evenings(x, 52, 2, 0, 0);
        evenings(x, 105, 2, 7, 0);
    }

    private static void keep() {
        RemorseWall x = Due.laid("r9;c0,0,1,0;m0,1,2,0;");
        due("25: keep()", x.keep(), 1);
        due("25: keep() again", x.keep(), 2);
        due("25: no third", x.keep(), FULL);
        due("25: count(11)", x.count(11), 2);
        due("25: nothing to undo by it", x.undo(), NO);
        x.back();
        due("25: keep() in its place", x.keep(), 2);
    }

    private static void back() {
        RemorseWall x = Due.laid("r99;c0,0,1,0;m0,1,2,0;");
        due("26: nothing is kept", x.back(), NO);
        x.stroke(0, 1);
        x.keep();
        x.pass(3);
        x.pardon(0);
        x.keep();
        x.stroke(0, 1);
        x.pass(1);
        x.see(0, 3);
        x.write('r');
        due("26: back()", x.back(), 1);
        int[] then = {2, 2, 1, 1, 3, 20, 1, 0, 2, 1, 0, 1, 23};
        for (int what = 0; what < then.length; what++) {
            due("26: count(" + what + ") as kept last", x.count(what), then[what]);
        }
        due("26: where she is", x.maid(0, 3), 1);
        due("26: nothing is undone", x.undo(), NO);
        x.pass(1);
        due("26: back() again", x.back(), 0);
        int[] first = {2, 2, 1, 1, 0, 17, 0, 1, 1, 1, 0, 0, 23};
        for (int what = 0; what < first.length; what++) {
            due("26: count(" + what + ") as kept first", x.count(what), first[what]);
        }
        due("26: high(1)", x.high(1), 8);
        due("26: kept no more", x.back(), NO);
        due("26: undone is what comes then", x.pass(1), 1);
        due("26: that alone", x.undo(), 0);
    }

    private static void count() {
        RemorseWall x = Due.laid("r199;r299;c0,1,9,0;c0,2,4,0;m0,3,2,0;m1,4,3,5;");
        int[] laid = {6, 3, 2, 2, 0, 39, 0, 2, 5, 0, 0, 0, 46};
        for (int what = 0; what < laid.length; what++) {
            due("27: count(" + what + ")", x.count(what), laid[what]);
        }
        x.stroke(1, 5);
        x.pardon(1);
        x.see(0, 0);
        x.keep();
        due("27: strokes left", x.count(8), 4);
        x.pass(1);
        x.wipe();
        int[] then = {6, 3, 2, 2, 1, 44, 1, 1, 5, 1, 3, 1, 0};
        for (int what = 0; what < then.length; what++) {
            due("27: count(" + what + ") then", x.count(what), then[what]);
        }
        due("27: count(13)", x.count(13), BAD);
        for (int far : FAR) {
            due("27: count(" + far + ")", x.count(far), BAD);
        }
    }
}
