/** Counts the answers that are not as due; every test has one. */
final class Due {
    private final String test;
    private int answers = 0;
    private int wrong = 0;

    Due(String test) {
        this.test = test;
    }

    void due(String call, long got, long want) {
        answers++;
        if (got != want) {
            wrong++;
            if (wrong <= 40) {
                System.out.println(test + ": " + call + " answered " + got + ", due is " + want);
            }
        }
    }

    void holds(String what, boolean is) {
        due(what, is ? 1 : 0, 1);
    }

    int wrong() {
        return wrong;
    }

    void end() {
        System.out.println(test + ": " + (answers - wrong) + " answers as due, " + wrong + " not");
        if (wrong != 0 || answers == 0) {
            System.exit(1);
        }
    }

    static void write(RemorseWall wall, String text) {
        for (int i = 0; i < text.length(); i++) {
            wall.write(text.charAt(i));
        }
    }

    /** A new object with a text laid. */
    static RemorseWall laid(String text) {
        RemorseWall wall = new RemorseWall();
        write(wall, text);
        if (wall.lay() < 1) {
            throw new IllegalArgumentException("no plan: " + text);
        }
        return wall;
    }
}
