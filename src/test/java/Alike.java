/**
 * Whether two objects stand alike: all that can be asked, then all that can be undone, what comes
 * back and the text. Both are used up by it.
 */
final class Alike {
    private final RemorseWall x;
    private final RemorseWall y;
    private String first = "";

    private Alike(RemorseWall x, RemorseWall y) {
        this.x = x;
        this.y = y;
    }

    /** The first answer that differs, or an empty text. */
    static String difference(RemorseWall x, RemorseWall y) {
        Alike both = new Alike(x, y);
        both.counts("now");
        both.standing("now");
        both.told("now");
        both.minds();
        both.undone();
        both.kept();
        both.text();
        return both.first;
    }

    private void same(String when, String call, int one, int other) {
        if (one != other && first.isEmpty()) {
            first = when + " " + call + " is " + one + " and " + other;
        }
    }

    private void counts(String when) {
        for (int what = 0; what <= 13; what++) {
            same(when, "count(" + what + ")", x.count(what), y.count(what));
        }
    }

    private void standing(String when) {
        int cells = Math.max(x.count(0), y.count(0));
        for (int i = 0; i < cells; i++) {
            same(when, "high(" + i + ")", x.high(i), y.high(i));
        }
        same(when, "count(4)", x.count(4), y.count(4));
        for (int c = 0; c < y.count(2); c++) {
            same(when, "matter(" + c + ", 4)", x.matter(c, 4), y.matter(c, 4));
        }
        for (int m = 0; m < y.count(3); m++) {
            same(when, "maid(" + m + ", 2)", x.maid(m, 2), y.maid(m, 2));
            same(when, "maid(" + m + ", 3)", x.maid(m, 3), y.maid(m, 3));
        }
    }

    private void told(String when) {
        for (int c = 0; c < y.count(2); c++) {
            for (int what = 0; what < 4; what++) {
                same(when, "matter(" + c + ", " + what + ")", x.matter(c, what), y.matter(c, what));
            }
        }
        for (int m = 0; m < y.count(3); m++) {
            for (int what = 0; what < 2; what++) {
                same(when, "maid(" + m + ", " + what + ")", x.maid(m, what), y.maid(m, what));
            }
        }
    }

    /** What is seen can be told apart by the sets that agree with it alone. */
    private void minds() {
        for (int n = 1; n <= 4; n++) {
            same("now", "mind(" + n + ", 0)", x.mind(n, 0), y.mind(n, 0));
            same("now", "mind(" + n + ", 1)", x.mind(n, 1), y.mind(n, 1));
        }
    }

    private void undone() {
        boolean more = true;
        for (int i = 1; i <= 9 && more; i++) {
            more = answersOf("undone " + i, "undo()", x.undo(), y.undo());
        }
    }

    private void kept() {
        boolean more = true;
        for (int i = 1; i <= 3 && more; i++) {
            more = answersOf("come back " + i, "back()", x.back(), y.back());
        }
    }

    /** Compares two answers and what stands then; whether either has more to give. */
    private boolean answersOf(String when, String call, int one, int other) {
        same(when, call, one, other);
        standing(when);
        return one != RemorseWall.NO || other != RemorseWall.NO;
    }

    /** As it is, and with an end by which a lone r at its end becomes a row of three. */
    private void text() {
        laid("as it is");
        for (char letter : "000;".toCharArray()) {
            same("at the end", "write(" + letter + ")", x.write(letter), y.write(letter));
        }
        laid("with a row's end");
        same("at the end", "wipe()", x.wipe(), y.wipe());
    }

    private void laid(String when) {
        same(when, "fault()", x.fault(), y.fault());
        same(when, "lay()", x.lay(), y.lay());
        counts("laid " + when);
        standing("laid " + when);
        told("laid " + when);
    }
}
