/** Walls that stand at an edge, made by calls alone. */
final class Scenes {
    /** The text of {@link #lived()}: 55 letters. */
    static final String LIVED = "r539;r084;c0,1,3,0;c2,4,5,1;c3,2,2,0;m1,3,4,0;m3,2,2,5;";

    private Scenes() {
    }

    /**
     * A small wall with something of everything. It is year 3, the wall is 5 12 16, 3 4 7, case 1 is
     * pardoned, maid 0 is at 1, maid 1 at 4, two things are seen, two are kept, five can be undone.
     */
    static RemorseWall lived() {
        RemorseWall x = Due.laid(LIVED);
        x.stroke(0, 1);
        x.pass(2);
        x.keep();
        x.pardon(1);
        x.stroke(1, 4);
        x.see(1, 6);
        x.see(0, 5);
        x.keep();
        x.pass(1);
        x.write('r');
        return x;
    }

    /** As {@link #lived()}, with all cases pardoned and all strokes given, the maids where they were. */
    static RemorseWall spent() {
        RemorseWall x = lived();
        x.pardon(0);
        x.pardon(2);
        for (int i = 0; i < 4; i++) {
            x.stroke(0, 1);
        }
        x.stroke(1, 4);
        x.stroke(1, 4);
        return x;
    }

    /**
     * It is year 4, cell 0 stands h high. Case 0, by which it does, is pardoned then; the rest of
     * the first row, a ; behind it, and all else comes behind.
     */
    static RemorseWall stands(int h, String rest, String items) {
        RemorseWall x = Due.laid("r" + h % 9 + rest + "c0,0,9,0;" + items);
        int raised = h / 9;
        if (raised > 0) {
            x.pass(raised);
        }
        x.pardon(0);
        if (raised < 4) {
            x.pass(4 - raised);
        }
        return x;
    }

    /** A laid wall, some years on. */
    static RemorseWall inYear(int year, String text) {
        RemorseWall x = Due.laid(text);
        int rest = year;
        for (; rest >= 20; rest -= 20) {
            x.pass(20);
        }
        if (rest > 0) {
            x.pass(rest);
        }
        return x;
    }

    static String times(String text, int n) {
        return text.repeat(n);
    }

    static RemorseWall wiped(RemorseWall x) {
        x.wipe();
        return x;
    }
}
