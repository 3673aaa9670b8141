/**
 * Promises 1 to 8, worked out by hand from the document: ordinary calls, the edges it names, and numbers that
 * are none.
 */
public final class WallsTest {
    private static final int BAD = -1, NO = -2, FULL = -3, NONE = -4;
    private static final int[] FAR = {-1, Integer.MIN_VALUE, Integer.MAX_VALUE};

    private static final Due DUE = new Due("WallsTest");

    public static void main(String[] args) {
        newObject();
        write();
        wipe();
        faultInRows();
        faultInCases();
        faultInMaids();
        lay();
        high();
        matter();
        maid();
        DUE.end();
    }

    private static void due(String call, int got, int want) {
        DUE.due(call, got, want);
    }

    private static void newObject() {
        RemorseWall x = new RemorseWall();
        String rows = "000000003000010020";
        for (int i = 0; i < 18; i++) {
            due("1: high(" + i + ")", x.high(i), rows.charAt(i) - '0');
        }
        int[][] cases = {{0, 7, 3, 0}, {1, 12, 4, 1}, {2, 9, 5, 2}, {3, 16, 2, 0}, {1, 2, 6, 4}};
        int[][] maids = {{0, 4, 3, 0}, {1, 3, 4, 8}, {2, 6, 2, 17}};
        for (int part = 0; part < 4; part++) {
            for (int c = 0; c < 5; c++) {
                due("1: matter(" + c + ", " + part + ")", x.matter(c, part), cases[c][part]);
            }
            for (int m = 0; m < 3; m++) {
                due("1: maid(" + m + ", " + part + ")", x.maid(m, part), maids[m][part]);
            }
        }
        int[] counts = {18, 6, 5, 3, 0, 6, 0, 5, 9, 0, 0, 0, 0};
        for (int what = 0; what < counts.length; what++) {
            due("1: count(" + what + ")", x.count(what), counts[what]);
        }
        due("1: undo()", x.undo(), NO);
        due("1: back()", x.back(), NO);
        due("1: fault()", x.fault(), NONE);
        due("1: lay() of nothing", x.lay(), NO);
        due("1: count(0) then", x.count(0), 18);
    }

    private static void write() {
        RemorseWall x = new RemorseWall();
        int[] none = {31, 127, -1, 0, 10, 256 + 'r', Integer.MIN_VALUE, Integer.MAX_VALUE};
        for (int letter : none) {
            due("2: write(" + letter + ")", x.write(letter), BAD);
        }
        due("2: write(32)", x.write(32), 1);
        due("2: write(126)", x.write(126), 2);
        for (int n = 3; n <= 200; n++) {
            due("2: write as number " + n, x.write('r'), n);
        }
        due("2: write on a full text", x.write('r'), FULL);
        due("2: write of no letter on a full text", x.write(127), BAD);
        due("2: count(12) of a full text", x.count(12), 200);
    }

    private static void wipe() {
        RemorseWall x = new RemorseWall();
        due("3: wipe() of nothing", x.wipe(), 0);
        Due.write(x, "x23");
        due("3: wipe()", x.wipe(), 3);
        due("3: count(12)", x.count(12), 0);
        due("3: fault()", x.fault(), NONE);
        due("3: write behind it", x.write('r'), 1);
        due("3: wipe() again", x.wipe(), 1);
    }

    private static void fault(String text, int want) {
        RemorseWall x = new RemorseWall();
        Due.write(x, text);
        due("4: fault() of " + text, x.fault(), want);
        if (want != NONE) {
            due("5: lay() of " + text, x.lay(), NO);
        }
    }

    private static void faultInRows() {
        fault("", NONE);
        fault("r0;", NONE);
        fault("r123456;", NONE);
        fault("r1234567;", 0);
        fault("r;", 0);
        fault("r1", 0);
        fault("r", 0);
        fault("r1,2;", 0);
        fault("r1 ;", 0);
        fault("R1;", 0);
        fault(";", 0);
        fault("r1;;", 3);
        fault("r12;r34;r56;r78;", NONE);
        fault("r12;r34;r56;r78;r90;", 16);
        fault("r12;r3;", 4);
        fault("r12;r345;", 4);
        fault("r12;x;r1;", 4);
        fault(" r12;", 0);
    }

    private static void faultInCases() {
        fault("c0,0,1,0;r1;", 0);
        fault("r12;c0,1,9,19;c3,0,1,0;r34;c2,3,5,5;", NONE);
        fault("r12;c00,01,09,00;", NONE);
        fault("r12;c4,0,1,0;", 4);
        fault("r12;c0,2,1,0;", 4);
        fault("r12;c0,2,1,0;r34;", 4);
        fault("r12;c0,0,0,0;", 4);
        fault("r12;c0,0,10,0;", 4);
        fault("r12;c0,0,1,20;", 4);
        fault("r12;c0,0,001,0;", 4);
        fault("r12;c000,0,1,0;", 4);
        fault("r12;c0,0,1,000;", 4);
        fault("r12;c0,0,1;", 4);
        fault("r12;c0,0,1,0,0;", 4);
        fault("r12;c0,0,,0;", 4);
        fault("r12;c,0,1,0;", 4);
        fault("r12;c0,0,1,;", 4);
        fault("r12;c0,0,1,0", 4);
        fault("r12;c0,0,1,0,", 4);
        fault("r12;c0;0,1,0;", 4);
        fault("r12;c-1,0,1,0;", 4);
        fault("r12;c", 4);
        fault("r1;c0,0,1,0;c0,0,1,0;c0,0,1,0;c0,0,1,0;c0,0,1,0;c0,0,1,0;", NONE);
        fault("r1;c0,0,1,0;c0,0,1,0;c0,0,1,0;c0,0,1,0;c0,0,1,0;c0,0,1,0;c0,0,1,0;", 57);
    }

    private static void faultInMaids() {
        fault("m0,1,1,0;", 0);
        fault("r12;m0,1,1,0;m3,9,9,1;m03,09,09,01;", NONE);
        fault("r12;m4,1,1,0;", 4);
        fault("r12;m0,0,1,0;", 4);
        fault("r12;m0,10,1,0;", 4);
        fault("r12;m0,1,0,0;", 4);
        fault("r12;m0,1,10,0;", 4);
        fault("r12;m0,1,1,2;", 4);
        fault("r12;m0,1,1,99;", 4);
        fault("r12;m0,1,1;", 4);
        fault("r1;m0,1,1,0;m0,1,1,0;m0,1,1,0;m0,1,1,0;", 30);
        fault("r1;m0,1,1,0;c0,0,1,0;m0,1,1,00;x", 31);
    }

    private static void lay() {
        RemorseWall x = new RemorseWall();
        x.stroke(0, 0);
        x.pass(3);
        x.pardon(1);
        x.keep();
        x.see(0, 0);
        Due.write(x, "r1234;r5678;c0,7,9,2;m2,3,4,5;");
        due("5: lay()", x.lay(), 8);
        int[] counts = {8, 4, 1, 1, 0, 36, 0, 1, 4, 0, 0, 0, 30};
        for (int what = 0; what < counts.length; what++) {
            due("5: count(" + what + ") then", x.count(what), counts[what]);
        }
        due("5: undo() then", x.undo(), NO);
        due("5: back() then", x.back(), NO);
        for (int i = 0; i < 8; i++) {
            due("5: high(" + i + ") then", x.high(i), i + 1);
        }
        x.pass(5);
        x.keep();
        x.write('r');
        due("5: lay() of a text with a fault", x.lay(), NO);
        due("5: count(4) then", x.count(4), 5);
        due("5: count(10) then", x.count(10), 1);
        due("5: count(11) then", x.count(11), 1);
        due("5: fault() then", x.fault(), 30);
        x.wipe();
        due("5: lay() of no cell", x.lay(), NO);
        due("5: high(7) then", x.high(7), 35);
        Due.write(x, "r9;");
        due("5: lay() of a smaller wall", x.lay(), 1);
        due("5: count(5) of it", x.count(5), 9);
        due("5: high(1) of it", x.high(1), BAD);
        due("5: matter(0, 0) of it", x.matter(0, 0), BAD);
        due("5: maid(0, 0) of it", x.maid(0, 0), BAD);
        due("5: lay() of it again", x.lay(), 1);
    }

    private static void high() {
        RemorseWall x = Due.laid("r90;r18;");
        due("6: high(0)", x.high(0), 9);
        due("6: high(3)", x.high(3), 8);
        due("6: high(4)", x.high(4), BAD);
        for (int far : FAR) {
            due("6: high(" + far + ")", x.high(far), BAD);
        }
    }

    private static void matter() {
        RemorseWall x = Due.laid("r9009;r0000;c0,0,5,19;c1,3,7,0;c2,4,9,0;c3,0,8,19;");
        due("7: a hand raises", x.matter(0, 5), 5);
        due("7: a vine raises", x.matter(1, 5), 7);
        due("7: a fair raises its own by nothing", x.matter(2, 5), 0);
        due("7: a door raises", x.matter(3, 5), 8);
        due("7: pardoned ahead", x.matter(1, 4), 0);
        x.pardon(1);
        due("7: pardoned", x.matter(1, 4), 1);
        due("7: a pardoned one raises", x.matter(1, 5), 0);
        due("7: its depth stays", x.matter(1, 2), 7);
        x.pass(1);
        due("7: behind a year, by the fair", x.high(0), 14);
        due("7: a door raises a hollow cell", x.matter(3, 5), 16);
        x.pass(4);
        due("7: behind five years", x.high(0), 34);
        due("7: a hand has to stop at the top", x.matter(0, 5), 5);
        due("7: a door has to stop at the top", x.matter(3, 5), 6);
        x.pass(2);
        due("7: at the top a hand", x.matter(0, 5), 0);
        due("7: at the top a door", x.matter(3, 5), 0);
        due("7: matter(4, 0)", x.matter(4, 0), BAD);
        due("7: matter(0, 6)", x.matter(0, 6), BAD);
        for (int far : FAR) {
            due("7: matter(" + far + ", 0)", x.matter(far, 0), BAD);
            due("7: matter(0, " + far + ")", x.matter(0, far), BAD);
        }
        // Eleven is not hollow yet, twelve is.
        RemorseWall y = Due.laid("r9;c0,0,2,0;c0,0,1,1;c3,0,4,19;");
        y.pass(1);
        due("7: a door at 11", y.matter(2, 5), 4);
        y.pardon(0);
        y.pass(1);
        due("7: a door at 12", y.matter(2, 5), 8);
    }

    private static void maid() {
        RemorseWall x = Due.laid("r923;c0,0,3,0;m0,4,2,0;m1,5,1,1;m2,5,9,2;");
        due("8: plain takes", x.maid(0, 4), 4);
        due("8: thorough takes no more than there is", x.maid(1, 4), 2);
        due("8: gentle takes", x.maid(2, 4), 3);
        x.stroke(0, 1);
        due("8: strokes left", x.maid(0, 2), 1);
        due("8: where she is", x.maid(0, 3), 1);
        due("8: takes off a smooth cell", x.maid(0, 4), 0);
        x.stroke(1, 0);
        due("8: none left", x.maid(1, 2), 0);
        due("8: takes, whatever she has left", x.maid(1, 4), 4);
        due("8: maid(3, 0)", x.maid(3, 0), BAD);
        due("8: maid(0, 5)", x.maid(0, 5), BAD);
        for (int far : FAR) {
            due("8: maid(" + far + ", 0)", x.maid(far, 0), BAD);
            due("8: maid(0, " + far + ")", x.maid(0, far), BAD);
        }
        RemorseWall y = Due.laid("r9;c0,0,2,0;c0,0,1,1;m3,4,1,0;m3,9,1,0;");
        due("8: hasty takes twice", y.maid(0, 4), 8);
        due("8: hasty takes no more than there is", y.maid(1, 4), 9);
        y.pass(1);
        due("8: hasty at 11", y.maid(0, 4), 8);
        y.pardon(0);
        y.pass(1);
        due("8: hasty at 12, hollow", y.maid(0, 4), 0);
    }
}
