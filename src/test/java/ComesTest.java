/**
 * Promises 13 to 18, worked out by hand from the document: ordinary calls, the edges it names, and numbers that
 * are none.
 */
public final class ComesTest {
    private static final int BAD = -1, NO = -2, NONE = -4;
    private static final int[] FAR = {-1, Integer.MIN_VALUE, Integer.MAX_VALUE};

    private static final Due DUE = new Due("ComesTest");

    public static void main(String[] args) {
        behind();
        hollowed();
        smooth();
        smoothByKind();
        round();
        chairs();
        pardons();
        DUE.end();
    }

    private static void due(String call, int got, int want) {
        DUE.due(call, got, want);
    }

    private static void behind() {
        RemorseWall x = Due.laid("r10;c0,0,2,0;c3,1,4,3;m0,9,9,0;");
        due("13: behind(0, 0)", x.behind(0, 0), 1);
        due("13: behind(3, 0)", x.behind(3, 0), 7);
        due("13: behind(3, 1)", x.behind(3, 1), 0);
        due("13: behind(4, 1)", x.behind(4, 1), 4);
        due("13: behind(6, 1)", x.behind(6, 1), 12);
        due("13: behind(7, 1)", x.behind(7, 1), 20);
        due("13: behind(20, 0)", x.behind(20, 0), 40);
        due("13: nothing changes", x.high(0), 1);
        due("13: nor the year", x.count(4), 0);
        x.pass(3);
        due("13: from now on", x.behind(1, 1), 4);
        x.pardon(1);
        due("13: pardoned", x.behind(20, 1), 0);
        due("13: behind(21, 0)", x.behind(21, 0), BAD);
        due("13: behind(0, 2)", x.behind(0, 2), BAD);
        for (int far : FAR) {
            due("13: behind(" + far + ", 0)", x.behind(far, 0), BAD);
            due("13: behind(0, " + far + ")", x.behind(0, far), BAD);
        }
    }

    private static void hollowed() {
        RemorseWall x = Due.laid("r9099;c0,0,3,0;c0,1,1,9;c0,2,3,19;c0,3,1,18;");
        due("14: hollowed(0)", x.hollowed(0), 1);
        due("14: not in twenty years", x.hollowed(1), NONE);
        due("14: in twenty", x.hollowed(2), 20);
        due("14: eleven is not", x.hollowed(3), NONE);
        x.pass(1);
        due("14: it is", x.hollowed(0), 0);
        due("14: nothing changes", x.high(2), 9);
        x.pass(1);
        due("14: hollowed(1) later", x.hollowed(1), 19);
        due("14: hollowed(4)", x.hollowed(4), BAD);
        for (int far : FAR) {
            due("14: hollowed(" + far + ")", x.hollowed(far), BAD);
        }
    }

    private static void smooths(RemorseWall x, int m, int cell, int... row) {
        due("15: smooth(" + m + ", " + cell + ", -1)", x.smooth(m, cell, -1), row.length);
        for (int k = 0; k < row.length; k++) {
            due("15: smooth(" + m + ", " + cell + ", " + k + ")", x.smooth(m, cell, k), row[k]);
        }
        due("15: a stroke too far", x.smooth(m, cell, row.length), NONE);
        due("15: far too far", x.smooth(m, cell, Integer.MAX_VALUE), NONE);
    }

    private static void smooth() {
        RemorseWall x = Due.laid("r009;r040;m0,4,4,0;m0,2,3,0;");
        smooths(x, 0, 0);
        smooths(x, 0, 4, 1, 4);
        smooths(x, 0, 2, 1, 2, 2, 2);
        due("15: none", x.smooth(1, 2, -1), NONE);
        due("15: none, its first", x.smooth(1, 2, 0), NONE);
        smooths(x, 1, 4, 1, 4, 4);
        x.stroke(0, 0);
        due("15: fewer left", x.smooth(0, 2, -1), NONE);
        smooths(x, 0, 4, 1, 4);
        x.stroke(0, 0);
        x.stroke(0, 0);
        x.stroke(0, 0);
        smooths(x, 0, 1);
        due("15: none left", x.smooth(0, 4, -1), NONE);
        due("15: nothing changes", x.high(4), 4);
        due("15: smooth(2, 0, 0)", x.smooth(2, 0, 0), BAD);
        due("15: smooth(0, 6, 0)", x.smooth(0, 6, 0), BAD);
        due("15: smooth(0, 0, -2)", x.smooth(0, 0, -2), BAD);
        due("15: bad where there is none", x.smooth(0, 4, -2), BAD);
        for (int far : FAR) {
            due("15: smooth(" + far + ", 0, 0)", x.smooth(far, 0, 0), BAD);
            due("15: smooth(0, " + far + ", 0)", x.smooth(0, far, 0), BAD);
        }
        due("15: smooth far below", x.smooth(0, 0, Integer.MIN_VALUE), BAD);
    }

    private static void smoothByKind() {
        RemorseWall x = Due.laid("r07;c0,1,6,0;m1,5,9,0;m2,5,5,1;m3,3,5,1;");
        // A stroke at cell 0 takes half of 5 off cell 1, too.
        smooths(x, 0, 1, 0, 1);
        smooths(x, 1, 1, 1, 1, 1);
        smooths(x, 2, 1, 1, 1);
        x.pass(1);
        smooths(x, 0, 1, 1, 1, 1);
        smooths(x, 1, 1, 1, 1, 1, 1, 1);
        due("15: hasty at a hollow cell", x.smooth(2, 1, -1), NONE);
        smooths(Due.laid("r11;r20;m1,4,3,1;"), 0, 2, 0, 2);
        // Half of 9 from the one ahead: more than there is, just as much, less.
        smooths(Due.laid("r03;m1,9,1,0;"), 0, 1, 0);
        smooths(Due.laid("r04;m1,9,1,0;"), 0, 1, 0);
        smooths(Due.laid("r05;m1,9,2,0;"), 0, 1, 1);
        // Two rows of two strokes lead to cell 3; the one by the lower cell is the first.
        smooths(Due.laid("r00;r01;m0,1,9,0;"), 0, 3, 1, 3);
    }

    private static void rounds(RemorseWall x, int m, int sum, int... row) {
        int n = row.length;
        due("16: round(" + m + ", " + n + ", -1)", x.round(m, n, -1), sum);
        for (int k = 0; k < 5; k++) {
            due("16: round(" + m + ", " + n + ", " + k + ")", x.round(m, n, k), k < n ? row[k] : NONE);
        }
    }

    private static void round() {
        RemorseWall x = Due.laid("r55;r50;m0,3,5,3;");
        rounds(x, 0, 12, 1);
        rounds(x, 0, 9, 1, 0);
        rounds(x, 0, 6, 1, 0, 2);
        rounds(x, 0, 4, 1, 0, 0, 2);
        rounds(x, 0, 2, 1, 0, 0, 2, 2);
        due("16: nothing changes", x.count(5), 15);
        due("16: nor her strokes", x.maid(0, 2), 5);
        x.stroke(0, 3);
        due("16: fewer left", x.round(0, 5, 0), NO);
        due("16: round(0, 4, 4)", x.round(0, 4, 4), NONE);
        due("16: fewer left and no such stroke", Due.laid("r5;m0,3,1,0;").round(0, 2, 3), NO);
        due("16: round(0, 5, 5)", x.round(0, 5, 5), BAD);
        due("16: round(0, 1, -2)", x.round(0, 1, -2), BAD);
        due("16: round(0, 0, 0)", x.round(0, 0, 0), BAD);
        due("16: round(0, 6, 0)", x.round(0, 6, 0), BAD);
        due("16: round(1, 1, 0)", x.round(1, 1, 0), BAD);
        for (int far : FAR) {
            due("16: round(" + far + ", 1, 0)", x.round(far, 1, 0), BAD);
            due("16: round(0, " + far + ", 0)", x.round(0, far, 0), BAD);
        }
        due("16: round far above", x.round(0, 1, Integer.MAX_VALUE), BAD);
        // Where nothing can be taken off, the lowest cells are the first.
        rounds(Due.laid("r000;r000;m0,9,9,4;"), 0, 0, 1, 0, 0, 0, 0);
        // At cell 0 she takes 4 and 2, at cell 1 no more than 4.
        rounds(Due.laid("r44;m1,4,9,1;"), 0, 2, 0);
        rounds(Due.laid("r45;m1,4,9,0;"), 0, 0, 0, 1);
        // Gentle: 1 and half of 7.
        rounds(Due.laid("r19;m2,7,9,1;"), 0, 2, 1, 1);
    }

    private static void chairs(String text, int h, int want) {
        due("17: chairs(" + h + ") of " + text, Due.laid(text).chairs(h), want);
    }

    private static void chairs() {
        chairs("r0;", 0, 1);
        chairs("r9;", 8, 0);
        chairs("r9;", 9, 1);
        chairs("r00000;", 0, 3);
        chairs("r000000;", 0, 3);
        chairs("r0090;", 0, 2);
        chairs("r0;r0;r0;r0;", 0, 2);
        chairs("r009;r900;", 0, 2);
        chairs("r0000;r9990;r0000;", 0, 5);
        chairs("r090;r909;r090;", 0, 5);
        chairs("r909;r090;r909;", 0, 4);
        chairs("r909;r090;r909;", 9, 5);
        chairs("r909;r000;r909;", 0, 4);
        chairs("r123;r456;r789;", 5, 3);
        chairs("r000000;r000000;r000000;r000000;", 0, 12);
        RemorseWall x = Due.laid("r99;c0,0,9,0;");
        x.pass(20);
        due("17: chairs(39)", x.chairs(39), 1);
        due("17: chairs(40)", x.chairs(40), 1);
        due("17: chairs(8)", x.chairs(8), 0);
        due("17: chairs(41)", x.chairs(41), BAD);
        for (int far : FAR) {
            due("17: chairs(" + far + ")", x.chairs(far), BAD);
        }
    }

    private static void pardons() {
        RemorseWall x = Due.laid("r00;c0,0,3,0;c0,1,5,2;c2,0,9,0;");
        due("18: pardons(1, 0)", x.pardons(1, 0), 2);
        due("18: pardons(1, 1)", x.pardons(1, 1), 3);
        due("18: pardons(20, 0)", x.pardons(20, 0), 0);
        due("18: pardons(20, 1)", x.pardons(20, 1), 40);
        due("18: nothing changes", x.count(7), 3);
        x.pardon(0);
        due("18: of several the lowest", x.pardons(20, 0), 1);
        due("18: how much", x.pardons(20, 1), 40);
        due("18: pardons(0, 0)", x.pardons(0, 0), BAD);
        due("18: pardons(21, 0)", x.pardons(21, 0), BAD);
        due("18: pardons(1, 2)", x.pardons(1, 2), BAD);
        for (int far : FAR) {
            due("18: pardons(" + far + ", 0)", x.pardons(far, 0), BAD);
            due("18: pardons(1, " + far + ")", x.pardons(1, far), BAD);
        }
        x.pardon(1);
        x.pardon(2);
        due("18: all are pardoned, which", x.pardons(1, 0), NONE);
        due("18: all are pardoned, how much", x.pardons(1, 1), NONE);
        due("18: bad all the same", x.pardons(0, 0), BAD);
        due("18: no cases", Due.laid("r1;").pardons(20, 1), NONE);
    }
}
