/**
 * Whether two objects stand alike: all that can be asked, then all that can be undone, what comes
 * back and the text. Both are used up by it.
 */
final class Alike {
    private final RemorseWall x;
    private final RemorseWall y;
    private String first = "";

    private Alike(RemorseWall x, RemorseWall y) {
        this.x = x;
        this.y = y;
    }

    /** The first answer that differs, or an empty text. */
    static String difference(RemorseWall x, RemorseWall y) {
        Alike both = new Alike(x, y);
        both.counts("now");
        both.standing("now");
        both.told("now");
        both.minds();
        both.undone();
        both.kept();
        both.text();
        return both.first;
    }

    private void same(String when, String call, int one, int other) {
        if (one != other && first.isEmpty()) {
            first = when + " " + call + " is " + one + " and " + other;
        }
    }

    private void counts(String when) {
        for (int what = 0; what <= 13; what++) {
            same(when, "count(" + what + ")", x.count(what), y.count(what));
        }
    }

    private void standing(String when) {
        int cells = Math.max(x.count(0), y.count(0));
        for (int i = 0; i < cells; i++) {
            same(when, "high(" + i + ")", x.high(i), y.high(i));
        }
        same(when, "count(4)", x.count(4), y.count(4));
        for (int c = 0; c < y.count(2); c++) {
            same(when, "matter(" + c + ", 4)", x.matter(c, 4), y.matter(c, 4));
        }
        for (int m = 0; m < y.count(3); m++) {
            same(when, "maid(" + m + ", 2)", x.maid(m, 2), y.maid(m, 2));
            same(when, "maid(" + m + ", 3)", x.maid(m, 3), y.maid(m, 3));
        }
    }

    private void told(String when) {
        for (int c = 0; c < y.count(2); c++) {
            for (int what = 0; what < 4; what++) {
                same(when, "matter(" + c + ", " + what + ")", x.matter(c, what), y.matter(c, what));
            }
        }
        for (int m = 0; m < y.count(3); m++) {
            for (int what = 0; what < 2; what++) {
                same(when, "maid(" + m + ", " + what + ")", x.maid(m, what), y.maid(m, what));
            }
        }
    }

    /** What is seen can be told apart by the sets that agree with it alone. */
    private void minds() {
        for (int n = 1; n <= 4; n++) {
            same("now", "mind(" + n + ", 0)", x.mind(n, 0), y.mind(n, 0));
            same("now", "mind(" + n + ", 1)", x.mind(n, 1), y.mind(n, 1));
        }
    }

    private void undone() {
        for (int i = 1; i <= 9; i++) {
            same("undone " + i, "undo()", x.undo(), y.undo());
            standing("undone " + i);
        }
    }

    private void kept() {
        for (int i = 1; i <= 3; i++) {
            same("come back " + i, "back()", x.back(), y.back());
            standing("come back " + i);
        }
    }

    private void text() {
        same("at the end", "fault()", x.fault(), y.fault());
        same("at the end", "lay()", x.lay(), y.lay());
        counts("laid anew");
        standing("laid anew");
        told("laid anew");
        same("at the end", "wipe()", x.wipe(), y.wipe());
    }
}
