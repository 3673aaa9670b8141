/**
 * Promises 9 to 12, worked out by hand from the document: ordinary calls, the edges it names, and numbers that
 * are none.
 */
public final class ActsTest {
    private static final int BAD = -1, NO = -2;
    private static final int[] FAR = {-1, Integer.MIN_VALUE, Integer.MAX_VALUE};

    private static final Due DUE = new Due("ActsTest");

    public static void main(String[] args) {
        stroke();
        pass();
        yearByKind();
        pardon();
        undo();
        DUE.end();
    }

    private static void due(String call, int got, int want) {
        DUE.due(call, got, want);
    }

    private static void stroke() {
        RemorseWall x = Due.laid("r999;r999;m0,2,9,0;m1,5,9,1;m2,5,9,5;");
        due("9: where she is", x.stroke(0, 0), 7);
        due("9: beside", x.stroke(0, 1), 7);
        due("9: below", x.stroke(0, 4), 7);
        due("9: across", x.stroke(0, 0), NO);
        due("9: she stays", x.maid(0, 3), 4);
        due("9: her strokes stay", x.maid(0, 2), 6);
        due("9: nothing to undo from it", x.count(10), 3);
        due("9: thorough", x.stroke(1, 1), 2);
        due("9: thorough, the one behind", x.high(2), 7);
        due("9: thorough at the row's end", x.stroke(1, 2), 2);
        due("9: nothing of the next row", x.high(3), 9);
        due("9: gentle", x.stroke(2, 5), 6);
        due("9: gentle above, no lower than 0", x.stroke(2, 2), 0);
        due("9: two away", x.stroke(2, 0), NO);
        due("9: row's end to row's start", x.stroke(2, 3), NO);
        due("9: no such maid", x.stroke(3, 0), BAD);
        due("9: no such cell", x.stroke(0, 6), BAD);
        for (int far : FAR) {
            due("9: stroke(" + far + ", 0)", x.stroke(far, 0), BAD);
            due("9: stroke(0, " + far + ")", x.stroke(0, far), BAD);
        }
        RemorseWall y = Due.laid("r95;c0,0,9,0;m3,4,2,1;");
        due("9: hasty", y.stroke(0, 1), 0);
        y.pass(1);
        due("9: hasty at a hollow cell", y.stroke(0, 0), 18);
        due("9: she is there", y.maid(0, 3), 0);
        due("9: it was a stroke", y.maid(0, 2), 1);
        due("9: her last", y.stroke(0, 0), 18);
        due("9: none left", y.stroke(0, 0), NO);
        y.pass(1);
        due("9: behind a year", y.maid(0, 2), 2);
        RemorseWall z = Due.laid("r19;r90;m1,9,1,1;");
        due("9: thorough at the row's end, nothing behind it", z.stroke(0, 1), 0);
        due("9: the next row keeps", z.high(2), 9);
    }

    private static void pass() {
        RemorseWall x = Due.laid("r0;c0,0,1,1;m0,1,3,0;");
        x.stroke(0, 0);
        due("10: pass(1)", x.pass(1), 1);
        due("10: its year has not come", x.high(0), 0);
        due("10: strokes again", x.maid(0, 2), 3);
        due("10: pass(1) again", x.pass(1), 2);
        due("10: its year has come", x.high(0), 1);
        due("10: pass(20)", x.pass(20), 22);
        due("10: all of them raised", x.high(0), 21);
        due("10: pass(0)", x.pass(0), BAD);
        due("10: pass(21)", x.pass(21), BAD);
        for (int far : FAR) {
            due("10: pass(" + far + ")", x.pass(far), BAD);
        }
        for (int i = 0; i < 48; i++) {
            x.pass(20);
        }
        due("10: late", x.count(4), 982);
        due("10: no cell is higher", x.high(0), 40);
        due("10: beyond 999", x.pass(18), NO);
        due("10: no year went by", x.count(4), 982);
        due("10: nor can it be undone", x.count(10), 8);
        due("10: up to 999", x.pass(17), 999);
        due("10: beyond", x.pass(1), NO);
        due("10: bad all the same", x.pass(21), BAD);
    }

    private static void yearByKind() {
        RemorseWall vine = Due.laid("r00;r00;c1,0,7,0;c1,1,5,0;");
        vine.pass(1);
        due("10: a vine's own", vine.high(0), 7);
        due("10: a vine's next, and own at the row's end", vine.high(1), 8);
        due("10: nothing in the next row", vine.high(2), 0);
        RemorseWall fair = Due.laid("r000;r000;r000;c2,4,5,0;c2,8,1,0;");
        fair.pass(1);
        int[] want = {0, 3, 0, 3, 0, 4, 0, 4, 0};
        for (int i = 0; i < want.length; i++) {
            due("10: fairs, cell " + i, fair.high(i), want[i]);
        }
        RemorseWall door = Due.laid("r9;c3,0,3,0;");
        int[] stands = {12, 18, 24, 30, 36, 40};
        for (int stand : stands) {
            door.pass(1);
            due("10: a door", door.high(0), stand);
        }
        // The door of the same year sees what the cases ahead of it raised, not what comes behind.
        RemorseWall order = Due.laid("r98;c0,0,3,0;c3,0,2,0;c3,1,2,0;c0,1,9,0;");
        order.pass(1);
        due("10: a door behind a hand", order.high(0), 16);
        due("10: a door ahead of a hand", order.high(1), 19);
    }

    private static void pardon() {
        RemorseWall x = Due.laid("r0;c0,0,1,0;c0,0,2,0;");
        due("11: pardon(1)", x.pardon(1), 1);
        due("11: pardon(1) again", x.pardon(1), NO);
        due("11: no more can be undone by that", x.count(10), 1);
        x.pass(1);
        due("11: it raises nothing", x.high(0), 1);
        due("11: pardon(0)", x.pardon(0), 0);
        x.pass(5);
        due("11: nothing raises", x.high(0), 1);
        due("11: pardon(2)", x.pardon(2), BAD);
        for (int far : FAR) {
            due("11: pardon(" + far + ")", x.pardon(far), BAD);
        }
    }

    private static void undo() {
        RemorseWall x = Due.laid("r99;c0,0,5,0;m1,6,2,0;");
        x.stroke(0, 0);
        x.pass(3);
        x.pardon(0);
        x.see(0, 0);
        x.keep();
        due("12: undo() of a pardon", x.undo(), 2);
        due("12: not pardoned", x.matter(0, 4), 0);
        due("12: undo() of three years at one time", x.undo(), 1);
        due("12: the year", x.count(4), 0);
        due("12: as high as then", x.high(0), 3);
        due("12: the strokes", x.maid(0, 2), 1);
        due("12: undo() of a stroke", x.undo(), 0);
        due("12: the cell", x.high(0), 9);
        due("12: the one behind it", x.high(1), 9);
        due("12: her strokes", x.maid(0, 2), 2);
        due("12: undo() of nothing", x.undo(), NO);
        due("12: what is seen stays", x.count(9), 1);
        due("12: what is kept stays", x.count(11), 1);
        for (int i = 1; i <= 9; i++) {
            x.pass(i);
        }
        due("12: eight can be", x.count(10), 8);
        for (int i = 7; i >= 0; i--) {
            due("12: undo()", x.undo(), i);
        }
        due("12: no ninth", x.undo(), NO);
        due("12: the first year stays", x.count(4), 1);
        x.stroke(0, 1);
        due("12: where she was", x.maid(0, 3), 1);
        due("12: undo() anew", x.undo(), 0);
        due("12: where she is", x.maid(0, 3), 0);
    }
}
