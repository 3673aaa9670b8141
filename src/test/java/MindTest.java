/**
 * Promises 19 to 22, worked out by hand from the document: ordinary calls, the edges it names, and numbers that
 * are none.
 */
public final class MindTest {
    private static final int BAD = -1, FULL = -3, NONE = -4;
    private static final int[] FAR = {-1, Integer.MIN_VALUE, Integer.MAX_VALUE};

    private static final Due DUE = new Due("MindTest");

    public static void main(String[] args) {
        see();
        forget();
        mind();
        mindAsLaid();
        deep();
        DUE.end();
    }

    private static void due(String call, int got, int want) {
        DUE.due(call, got, want);
    }

    private static void see() {
        RemorseWall x = Due.laid("r09;");
        due("19: see(0, 0)", x.see(0, 0), 1);
        due("19: see(1, 40)", x.see(1, 40), 2);
        due("19: see(1, 40) again", x.see(1, 40), 3);
        due("19: see(2, 0)", x.see(2, 0), BAD);
        due("19: see(0, 41)", x.see(0, 41), BAD);
        for (int far : FAR) {
            due("19: see(" + far + ", 0)", x.see(far, 0), BAD);
            due("19: see(0, " + far + ")", x.see(0, far), BAD);
        }
        due("19: count(9)", x.count(9), 3);
        for (int n = 4; n <= 8; n++) {
            due("19: see as number " + n, x.see(0, n), n);
        }
        due("19: a ninth", x.see(0, 0), FULL);
        due("19: a bad ninth", x.see(0, 41), BAD);
        due("19: count(9) then", x.count(9), 8);
    }

    private static void forget() {
        RemorseWall x = Due.laid("r0;c0,0,1,0;");
        due("20: forget() of nothing", x.forget(), 0);
        x.see(0, 7);
        x.see(0, 8);
        due("20: mind ahead", x.mind(1, 0), 0);
        due("20: forget()", x.forget(), 2);
        due("20: count(9)", x.count(9), 0);
        due("20: mind then", x.mind(1, 0), 2);
        due("20: see anew", x.see(0, 1), 1);
        due("20: mind of that", x.mind(1, 1), 1);
    }

    private static void minds(RemorseWall x, int n, int howMany, int lowest) {
        due("21: mind(" + n + ", 0)", x.mind(n, 0), howMany);
        due("21: mind(" + n + ", 1)", x.mind(n, 1), lowest);
    }

    private static void mind() {
        RemorseWall x = Due.laid("r0;c0,0,2,0;c0,0,3,0;c0,0,5,0;c0,0,1,5;");
        minds(x, 1, 16, 0);
        x.see(0, 5);
        minds(x, 1, 4, 3);
        minds(x, 2, 0, NONE);
        x.see(0, 5);
        minds(x, 1, 4, 3);
        x.see(0, 4);
        minds(x, 1, 0, NONE);
        x.forget();
        x.see(0, 40);
        minds(x, 20, 14, 1);
        x.forget();
        x.see(0, 0);
        minds(x, 1, 2, 0);
        minds(x, 6, 1, 0);
        due("21: mind(0, 0)", x.mind(0, 0), BAD);
        due("21: mind(21, 0)", x.mind(21, 0), BAD);
        due("21: mind(1, 2)", x.mind(1, 2), BAD);
        for (int far : FAR) {
            due("21: mind(" + far + ", 0)", x.mind(far, 0), BAD);
            due("21: mind(1, " + far + ")", x.mind(1, far), BAD);
        }
        RemorseWall empty = Due.laid("r3;");
        minds(empty, 20, 1, 0);
        empty.see(0, 4);
        minds(empty, 20, 0, NONE);
    }

    /** Neither strokes nor pardons nor the year that it is bear on what he had on his mind. */
    private static void mindAsLaid() {
        RemorseWall x = Due.laid("r40;c0,0,2,0;c0,1,3,1;m0,9,9,0;");
        x.stroke(0, 0);
        x.pardon(0);
        x.pass(7);
        x.see(0, 8);
        minds(x, 2, 2, 1);
        x.see(1, 3);
        minds(x, 2, 1, 3);
        due("21: nothing changes", x.high(0), 0);
        due("21: it stays pardoned", x.matter(0, 4), 1);
        due("21: the year stays", x.count(4), 7);
    }

    private static void deeps(RemorseWall x, int c, int n, int howMany, int least) {
        due("22: deep(" + c + ", " + n + ", 0)", x.deep(c, n, 0), howMany);
        due("22: deep(" + c + ", " + n + ", 1)", x.deep(c, n, 1), least);
    }

    private static void deep() {
        RemorseWall x = Due.laid("r0;c0,0,2,0;c0,0,3,0;c0,0,5,0;c0,0,1,5;");
        deeps(x, 0, 1, 9, 1);
        x.see(0, 11);
        deeps(x, 0, 1, 1, 3);
        deeps(x, 1, 1, 1, 4);
        deeps(x, 2, 1, 1, 6);
        deeps(x, 3, 1, 0, NONE);
        deeps(x, 0, 2, 0, NONE);
        x.forget();
        x.see(0, 10);
        x.pass(3);
        x.pardon(0);
        x.pardon(1);
        deeps(x, 3, 1, 9, 1);
        deeps(x, 3, 6, 0, NONE);
        due("22: its depth stays", x.matter(3, 2), 1);
        due("22: it is as high as it was", x.high(0), 30);
        due("22: deep(4, 1, 0)", x.deep(4, 1, 0), BAD);
        due("22: deep(0, 0, 0)", x.deep(0, 0, 0), BAD);
        due("22: deep(0, 21, 0)", x.deep(0, 21, 0), BAD);
        due("22: deep(0, 1, 2)", x.deep(0, 1, 2), BAD);
        for (int far : FAR) {
            due("22: deep(" + far + ", 1, 0)", x.deep(far, 1, 0), BAD);
            due("22: deep(0, " + far + ", 0)", x.deep(0, far, 0), BAD);
            due("22: deep(0, 1, " + far + ")", x.deep(0, 1, far), BAD);
        }
        due("22: in twenty years", x.deep(3, 20, 0), 0);
        x.forget();
        due("22: in twenty years, all", x.deep(3, 20, 0), 9);
        RemorseWall y = Due.laid("r00;c1,0,9,0;");
        y.see(1, 2);
        deeps(y, 0, 1, 2, 4);
        y.pardon(0);
        deeps(y, 0, 1, 2, 4);
    }
}
