/**
 * Runs of calls drawn by a fixed row of numbers, each answered by RemorseWall and by SlowWall, the
 * document told a second time; all promises, with texts, states and arguments of every sort.
 */
public final class ModelTest {
    private static final int RUNS = 400;
    private static final int CALLS = 400;
    private static final int EVERY_CALL = 26;

    private final Due due = new Due("ModelTest");
    private long row;

    public static void main(String[] args) {
        ModelTest test = new ModelTest();
        for (int run = 0; run < RUNS && test.due.wrong() == 0; run++) {
            test.row = 1000003L * run + 17;
            test.runOnce(run);
        }
        test.due.end();
    }

    /** A number from 0 to bound - 1. */
    private int draw(int bound) {
        row = row * 6364136223846793005L + 1442695040888963407L;
        return (int) ((row >>> 33) % bound);
    }

    /** Mostly from 0 to bound - 1, at times beside that or far from it. */
    private int around(int bound) {
        int sort = draw(40);
        if (sort == 0) {
            return draw(2) == 0 ? -1 : bound;
        }
        if (sort == 1) {
            int[] far = {Integer.MIN_VALUE, Integer.MAX_VALUE, -2, bound + 1, 1000000};
            return far[draw(far.length)];
        }
        return draw(Math.max(1, bound));
    }

    private String number(int n) {
        return draw(12) == 0 && n < 10 ? "0" + n : "" + n;
    }

    private String item(char letter, int a, int b, int c, int d) {
        return letter + number(a) + "," + number(b) + "," + number(c) + "," + number(d) + ";";
    }

    private String goodText(int mostStrokes) {
        int width = 1 + draw(6);
        int rows = 1 + draw(4);
        StringBuilder text = new StringBuilder();
        int cells = 0;
        int cases = draw(7);
        int maids = draw(4);
        int lowest = draw(10);
        for (int i = 0; i < rows; i++) {
            text.append('r');
            for (int j = 0; j < width; j++) {
                text.append(draw(3) == 0 ? draw(10) : lowest * draw(2));
            }
            text.append(';');
            cells += width;
            for (; draw(4) == 0 && cases > 0; cases--) {
                text.append(item('c', draw(4), draw(cells), 1 + draw(9), draw(20)));
            }
        }
        for (; cases > 0; cases--) {
            int year = draw(3) == 0 ? draw(20) : draw(4);
            text.append(item('c', draw(4), draw(cells), 1 + draw(9), year));
        }
        for (; maids > 0; maids--) {
            text.append(item('m', draw(4), 1 + draw(9), 1 + draw(mostStrokes), draw(cells)));
        }
        return text.toString();
    }

    /** Often with a fault: a letter changed, lost or doubled, an item too many, an end cut off. */
    private String anyText(int mostStrokes) {
        String text = goodText(mostStrokes);
        int place = draw(text.length());
        String ahead = text.substring(0, place);
        String signs = "rcm,;0123456789 x";
        switch (draw(8)) {
            case 0:
                return ahead + signs.charAt(draw(signs.length())) + text.substring(place + 1);
            case 1:
                return ahead + text.substring(place + 1);
            case 2:
                return ahead + text.substring(place, place + 1) + text.substring(place);
            case 3:
                return text + item("cm".charAt(draw(2)), draw(5), draw(12), draw(12), draw(22));
            case 4:
                return ahead;
            default:
                return text;
        }
    }

    private void writeAndLay(RemorseWall x, SlowWall y, int run, int mostStrokes) {
        due.due("run " + run + " wipe()", x.wipe(), y.wipe());
        String text = anyText(mostStrokes);
        for (int i = 0; i < text.length(); i++) {
            due.due("run " + run + " write of " + text, x.write(text.charAt(i)), y.write(text.charAt(i)));
        }
        due.due("run " + run + " fault() of " + text, x.fault(), y.fault());
        due.due("run " + run + " lay() of " + text, x.lay(), y.lay());
    }

    private void runOnce(int run) {
        RemorseWall x = new RemorseWall();
        SlowWall y = new SlowWall();
        int mostStrokes = run % 10 == 0 ? 9 : 5;
        if (run % 7 != 0) {
            writeAndLay(x, y, run, mostStrokes);
        }
        boolean late = run % 25 == 3;
        for (int i = 0; i < CALLS; i++) {
            int call = draw(EVERY_CALL + 12);
            if (late && draw(3) != 0) {
                call = 9;
            }
            if (call == 0 && draw(6) == 0) {
                writeAndLay(x, y, run, mostStrokes);
            }
            compare(x, y, call, run, i, late);
        }
        for (int cell = 0; cell < y.count(0); cell++) {
            due.due("run " + run + " high(" + cell + ") at the end", x.high(cell), y.high(cell));
        }
    }

    private void compare(RemorseWall x, SlowWall y, int call, int run, int i, boolean late) {
        int a = around(1);
        int cell = around(y.count(0));
        int kase = around(y.count(2));
        int maid = around(y.count(3));
        int n = around(21);
        int what = around(2);
        int h = around(41);
        long got;
        long want;
        switch (call) {
            case 1: a = draw(200); got = x.write(a); want = y.write(a); break;
            case 2: got = x.fault(); want = y.fault(); break;
            case 3: got = draw(9) == 0 ? x.wipe() + 100 * x.lay() : 0;
                want = got == 0 ? 0 : y.wipe() + 100 * y.lay(); break;
            case 4: case 26: case 27: got = x.high(cell); want = y.high(cell); break;
            case 5: a = around(6); got = x.matter(kase, a); want = y.matter(kase, a); break;
            case 6: a = around(5); got = x.maid(maid, a); want = y.maid(maid, a); break;
            case 7: case 28: case 29: case 30: case 31:
                cell = draw(3) == 0 ? cell : y.maid(maid, 3) + (draw(3) - 1) * (draw(2) == 0 ? 1 : y.count(1));
                got = x.stroke(maid, cell); want = y.stroke(maid, cell); break;
            case 8: case 9: case 32:
                n = late ? 20 - draw(4) : draw(2) == 0 ? 1 : n;
                got = x.pass(n); want = y.pass(n); break;
            case 10: kase = draw(3) == 0 ? kase : -1; got = x.pardon(kase); want = y.pardon(kase); break;
            case 11: got = x.undo(); want = y.undo(); break;
            case 12: got = x.behind(n, cell); want = y.behind(n, cell); break;
            case 13: got = x.hollowed(cell); want = y.hollowed(cell); break;
            case 14: case 33: a = around(7) - 1;
                got = x.smooth(maid, cell, a); want = y.smooth(maid, cell, a); break;
            case 15: n = 1 + around(draw(9) == 0 ? 5 : 3); a = around(6) - 1;
                got = x.round(maid, n, a); want = y.round(maid, n, a); break;
            case 16: got = x.chairs(h); want = y.chairs(h); break;
            case 17: got = x.pardons(n, what); want = y.pardons(n, what); break;
            case 18: h = draw(4) == 0 ? h : cell < 0 || cell > 23 ? 0 : y.behind(Math.floorMod(n, 21), cell);
                got = x.see(cell, h); want = y.see(cell, h); break;
            case 19: got = x.forget(); want = y.forget(); break;
            case 20: got = x.mind(n, what); want = y.mind(n, what); break;
            case 21: got = x.deep(kase, n, what); want = y.deep(kase, n, what); break;
            case 22: n = around(9); h = around(11);
                got = x.slip(maid, cell, n, h, what); want = y.slip(maid, cell, n, h, what); break;
            case 23: h = around(10000); n = around(61);
                got = x.evening(h, n, what); want = y.evening(h, n, what); break;
            case 24: got = x.keep(); want = y.keep(); break;
            case 25: got = draw(2) == 0 ? x.back() : -9; want = got == -9 ? -9 : y.back(); break;
            default: a = around(13); got = x.count(a); want = y.count(a);
        }
        due.due("run " + run + " call " + i + " of sort " + call + " (cell " + cell + ", case " + kase
                + ", maid " + maid + ", n " + n + ", what " + what + ", h " + h + ", a " + a + ")", got, want);
    }
}
