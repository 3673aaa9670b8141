/** The edges of Terms 1 and of promises 1 to 5: texts, their first fault, and how they are laid. */
public final class TextEdgesTest {
    private static final int BAD = Edges.BAD, NO = Edges.NO, FULL = Edges.FULL, NONE = Edges.NONE;

    /** The longest text without fault: 149 letters. */
    private static final String LONGEST = "r000000;r111111;r222222;r333333;"
            + "c00,00,01,00;c01,23,09,19;c02,12,05,10;c03,11,02,01;c00,06,03,02;c01,17,04,03;"
            + "m00,01,01,00;m03,09,09,23;m01,05,05,12;";
    private static final String FIRST = "r000000;r003000;r010020;c0,7,3,0;c1,12,4,1;c2,9,5,2;c3,16,2,0;"
            + "c1,2,6,4;m0,4,3,0;m1,3,4,8;m2,6,2,17;";

    private final Edges e;

    private TextEdgesTest(Edges e) {
        this.e = e;
    }

    public static void main(String[] args) {
        Edges e = new Edges("TextEdgesTest");
        all(e);
        e.end();
    }

    static void all(Edges e) {
        TextEdgesTest t = new TextEdgesTest(e);
        t.lengthOfText();
        t.items();
        t.separators();
        t.figures();
        t.figuresOfRows();
        t.widths();
        t.heights();
        t.rows();
        t.numberedCells();
        t.caseNumbers();
        t.caseCells();
        t.sixCases();
        t.maidNumbers();
        t.maidCells();
        t.maidsLaid();
        t.threeMaids();
        t.firstFault();
        t.laid();
        t.newObject();
        t.write();
        t.writeRefused();
        t.wipe();
        t.fault();
        t.faultNone();
        t.lay();
        t.layRefused();
    }

    /** The fault of a text, and that it is laid if it has none, and has a cell. */
    private void fault(String text, int want) {
        RemorseWall x = new RemorseWall();
        Due.write(x, text);
        e.due("fault() of " + text, x.fault(), want);
        boolean lays = want == NONE && text.contains("r");
        e.holds("lay() of " + text + (lays ? " lays" : " is NO"), lays ? x.lay() > 0 : x.lay() == NO);
    }

    // ---- Terms 1.

    private void lengthOfText() {
        e.sentence("Terms 1", "A TEXT is letters (200 at most)");
        RemorseWall x = new RemorseWall();
        Due.write(x, LONGEST);
        e.due("the longest one without fault", x.count(12), 149);
        e.due("its fault", x.fault(), NONE);
        e.due("laid", x.lay(), 24);
        for (int n = 150; n <= 200; n++) {
            e.due("letter " + n, x.write('r'), n);
        }
        e.due("letter 201", x.write('r'), FULL);
        e.due("how long it is then", x.count(12), 200);
        e.due("fault of a full text", x.fault(), 149);
        e.due("a full text with a fault", x.lay(), NO);
    }

    private void items() {
        e.sentence("Terms 1", "ITEMS one behind the other, each a letter, then what it tells");
        for (char letter = 32; letter <= 126; letter++) {
            fault(letter + "00;", letter == 'r' ? NONE : 0);
            fault("r00;" + letter + "0,1,1,0;", letter == 'c' || letter == 'm' ? NONE : 4);
            fault("r00;" + letter, 4);
        }
        fault("", NONE);
        fault("r00", 0);
        fault("00;", 0);
        fault("r00;00;", 4);
        fault("r00;rr00;", 4);
        fault("r00;c0,1,1,0;m0,1,1,0;", NONE);
        fault("r00;m0,1,1,0;c0,1,1,0;r00;", NONE);
        fault("r00; c0,1,1,0;", 4);
        fault(" r00;", 0);
        fault("r00; ", 4);
        fault("r00;c 0,1,1,0;", 4);
    }

    private void separators() {
        e.sentence("Terms 1", ", parted by , and a ; behind it");
        for (char sign = 32; sign <= 126; sign++) {
            fault("r1" + sign, sign == ';' ? NONE : 0);
            fault("r1;c0" + sign + "0,1,0;", sign == ',' ? NONE : 3);
            fault("r1;c0,0" + sign + "1,0;", sign == ',' ? NONE : 3);
            fault("r1;c0,0,1" + sign + "0;", sign == ',' ? NONE : 3);
            fault("r1;c0,0,1,0" + sign, sign == ';' ? NONE : 3);
            fault("r1;m0" + sign + "1,1,0;", sign == ',' ? NONE : 3);
            fault("r1;m0,1" + sign + "1,0;", sign == ',' ? NONE : 3);
            fault("r1;m0,1,1" + sign + "0;", sign == ',' ? NONE : 3);
            fault("r1;m0,1,1,0" + sign, sign == ';' ? NONE : 3);
        }
        fault("r1;;", 3);
        fault("r1;,", 3);
        fault(";", 0);
        fault("r1;c0,0,1;", 3);
        fault("r1;c0,0,1,0,;", 3);
        fault("r1;c0,0,1,0,0;", 3);
        fault("r1;c0,,0,1,0;", 3);
        fault("r1;c,0,0,1,0;", 3);
        fault("r1;m0,1,1;", 3);
        fault("r1;m0,1,1,0,0;", 3);
        fault("r1;c;", 3);
        fault("r1;m;", 3);
    }

    /** An item of a case or a maid with other words for one of its numbers. */
    private static String item(char letter, int part, String number) {
        String[] numbers = letter == 'c' ? new String[] {"0", "0", "1", "0"} : new String[] {"0", "1", "1", "0"};
        numbers[part] = number;
        return letter + String.join(",", numbers) + ";";
    }

    private void figures() {
        e.sentence("Terms 1", "(numbers: one or two figures");
        for (int part = 0; part < 4; part++) {
            for (char letter : new char[] {'c', 'm'}) {
                String good = letter == 'c' && part == 2 || letter == 'm' && (part == 1 || part == 2) ? "1" : "0";
                fault("r1;" + item(letter, part, ""), 3);
                fault("r1;" + item(letter, part, good), NONE);
                fault("r1;" + item(letter, part, "0" + good), NONE);
                fault("r1;" + item(letter, part, "00" + good), 3);
                fault("r1;" + item(letter, part, "0000000000" + good), 3);
                fault("r1;" + item(letter, part, "4294967296"), 3);
                for (char sign = 32; sign <= 126; sign++) {
                    if (sign < '0' || sign > '9') {
                        fault("r1;" + item(letter, part, "" + sign), 3);
                        fault("r1;" + item(letter, part, sign + good), 3);
                        boolean ends = part == 3 && sign == ';';
                        fault("r1;" + item(letter, part, good + sign), ends ? 12 : 3);
                    }
                }
            }
        }
    }

    private void figuresOfRows() {
        e.sentence("Terms 1", "a row: single figures, one next to the other)");
        for (char sign = 32; sign <= 126; sign++) {
            boolean figure = sign >= '0' && sign <= '9';
            fault("r" + sign + ";", figure ? NONE : 0);
            fault("r1" + sign + "1;", figure ? NONE : sign == ';' ? 3 : 0);
        }
        RemorseWall x = Due.laid("r10;");
        e.due("two figures are two cells", x.count(0), 2);
        fault("r1,0;", 0);
        fault("r1 0;", 0);
    }

    private void widths() {
        e.sentence("Terms 1", "rR a row of the WALL: CELLS R (a row of 1 to 6, as many as in the first one");
        fault("r;", 0);
        for (int first = 1; first <= 8; first++) {
            String row = "r" + Scenes.times("5", first) + ";";
            fault(row, first <= 6 ? NONE : 0);
            for (int other = 0; first <= 6 && other <= 8; other++) {
                fault(row + "r" + Scenes.times("0", other) + ";", other == first ? NONE : row.length());
                fault(row + row + "r" + Scenes.times("0", other) + ";", other == first ? NONE : 2 * row.length());
            }
        }
        e.due("one in a row", Due.laid("r0;").count(1), 1);
        e.due("six in a row", Due.laid("r000000;").count(1), 6);
        // A row with a fault is no first one: the reading ends there.
        fault("r1234567;r1;", 0);
    }

    private void heights() {
        e.sentence("Terms 1", "so HIGH it stands, 0 to 9)");
        RemorseWall x = Due.laid("r01234;r56789;");
        for (int i = 0; i < 10; i++) {
            e.due("high(" + i + ")", x.high(i), i);
        }
    }

    private void rows() {
        e.sentence("Terms 1", "; 4 at most; CELLS are numbered");
        for (int width = 1; width <= 6; width++) {
            String row = "r" + Scenes.times("7", width) + ";";
            for (int n = 1; n <= 4; n++) {
                fault(Scenes.times(row, n), NONE);
                e.due("cells of " + n + " rows", Due.laid(Scenes.times(row, n)).count(0), n * width);
            }
            fault(Scenes.times(row, 5), 4 * row.length());
            fault(Scenes.times(row, 4) + "c0,0,1,0;m0,1,1,0;" + row, 4 * row.length() + 18);
        }
    }

    private void numberedCells() {
        e.sentence("Terms 1", "CELLS are numbered from 0, along the first, then the second, ..");
        RemorseWall x = Due.laid("r12;r34;r56;r78;");
        for (int i = 0; i < 8; i++) {
            e.due("high(" + i + ")", x.high(i), i + 1);
        }
        e.due("one cell ahead of the first", x.high(-1), BAD);
        e.due("one cell behind the last", x.high(8), BAD);
        RemorseWall y = Due.laid("r1;r2;r3;r4;");
        for (int i = 0; i < 4; i++) {
            e.due("in a column high(" + i + ")", y.high(i), i + 1);
        }
        RemorseWall z = Due.laid("r123456;");
        for (int i = 0; i < 6; i++) {
            e.due("in a row high(" + i + ")", z.high(i), i + 1);
        }
    }

    /** All numbers that two figures can tell, with and without a 0 ahead: from least to most, none else. */
    private void numbersTaken(char letter, int part, int least, int most, int asked) {
        for (int n = 0; n <= 99; n++) {
            String[] tellings = n < 10 ? new String[] {"" + n, "0" + n} : new String[] {"" + n};
            for (String number : tellings) {
                String text = "r111111;r111111;r111111;r111111;" + item(letter, part, number);
                boolean taken = n >= least && n <= most;
                fault(text, taken ? NONE : 32);
                if (taken) {
                    RemorseWall x = Due.laid(text);
                    e.due(text + " tells", letter == 'c' ? x.matter(0, asked) : x.maid(0, asked), n);
                }
            }
        }
    }

    private void caseNumbers() {
        e.sentence("Terms 1", "cK,X,D,Y a CASE of KIND K (0 HAND, 1 VINE, 2 FAIR, 3 DOOR)");
        numbersTaken('c', 0, 0, 3, 0);
        e.sentence("Terms 1", ", D (1 to 9) deep");
        numbersTaken('c', 2, 1, 9, 2);
        e.sentence("Terms 1", ", from YEAR Y (0 to 19) on");
        numbersTaken('c', 3, 0, 19, 3);
    }

    private void caseCells() {
        e.sentence("Terms 1", " in CELL X (told ahead)");
        numbersTaken('c', 1, 0, 23, 1);
        cellsToldAhead("c0,", ",1,0;");
    }

    private void cellsToldAhead(String ahead, String behind) {
        fault(ahead + "0" + behind, 0);
        fault(ahead + "0" + behind + "r1;", 0);
        for (int rows = 1; rows <= 4; rows++) {
            for (int width = 1; width <= 6; width++) {
                String wall = Scenes.times("r" + Scenes.times("1", width) + ";", rows);
                int cells = rows * width;
                fault(wall + ahead + (cells - 1) + behind, NONE);
                fault(wall + ahead + cells + behind, wall.length());
                if (rows < 4) {
                    String row = "r" + Scenes.times("1", width) + ";";
                    fault(wall + ahead + cells + behind + row, wall.length());
                    fault(wall + row + ahead + cells + behind, NONE);
                }
            }
        }
    }

    private void sixCases() {
        e.sentence("Terms 1", "on; 6 at most, 0, 1, ..");
        e.due("no case", Due.laid("r1;").count(2), 0);
        String text = "r123456;";
        for (int n = 0; n < 6; n++) {
            text += "c0," + n + "," + (n + 1) + ",0;";
            fault(text, NONE);
            RemorseWall x = Due.laid(text);
            e.due("how many", x.count(2), n + 1);
            for (int c = 0; c <= n; c++) {
                e.due("case " + c + " is in cell", x.matter(c, 1), c);
                e.due("case " + c + " is so deep", x.matter(c, 2), c + 1);
            }
            e.due("the one behind the last", x.matter(n + 1, 0), BAD);
        }
        fault(text + "c0,0,1,0;", 62);
        fault(text + "m0,1,1,0;r123456;c0,0,1,0;", 79);
    }

    private void maidNumbers() {
        e.sentence("Terms 1", "mK,I,S,X a MAID of KIND K (0 PLAIN, 1 THOROUGH, 2 GENTLE, 3 HASTY)");
        numbersTaken('m', 0, 0, 3, 0);
        e.sentence("Terms 1", ", with an IRON of I (1 to 9)");
        numbersTaken('m', 1, 1, 9, 1);
        e.sentence("Terms 1", ", who gives S (1 to 9) STROKES a YEAR");
        numbersTaken('m', 2, 1, 9, 2);
    }

    private void maidCells() {
        e.sentence("Terms 1", ", at CELL X (told ahead)");
        numbersTaken('m', 3, 0, 23, 3);
        cellsToldAhead("m0,1,1,", ";");
    }

    private void maidsLaid() {
        e.sentence("Terms 1", "(LAID, each has all of a YEAR)");
        RemorseWall x = Due.laid("r5;m0,1,1,0;m0,1,9,0;m0,1,4,0;");
        e.due("the fewest", x.maid(0, 2), 1);
        e.due("the most", x.maid(1, 2), 9);
        e.due("between", x.maid(2, 2), 4);
        e.due("of all", x.count(8), 14);
        x.stroke(0, 0);
        x.stroke(1, 0);
        x.wipe();
        Due.write(x, "r5;m0,1,2,0;m0,1,9,0;");
        x.lay();
        e.due("laid anew, the first", x.maid(0, 2), 2);
        e.due("laid anew, the second", x.maid(1, 2), 9);
        e.due("laid anew, of all", x.count(8), 11);
    }

    private void threeMaids() {
        e.sentence("Terms 1", "; 3 at most, 0, 1, ..");
        e.due("no maid", Due.laid("r1;").count(3), 0);
        String text = "r12;";
        for (int n = 0; n < 3; n++) {
            text += "m" + n + "," + (n + 4) + "," + (n + 6) + "," + n % 2 + ";";
            fault(text, NONE);
            RemorseWall x = Due.laid(text);
            e.due("how many", x.count(3), n + 1);
            for (int m = 0; m <= n; m++) {
                e.due("kind of maid " + m, x.maid(m, 0), m);
                e.due("iron of maid " + m, x.maid(m, 1), m + 4);
                e.due("strokes of maid " + m, x.maid(m, 2), m + 6);
                e.due("where maid " + m + " is", x.maid(m, 3), m % 2);
            }
            e.due("the one behind the last", x.maid(n + 1, 0), BAD);
        }
        fault(text + "m0,1,1,0;", 31);
        fault(text + "c0,0,1,0;r12;m0,1,1,0;", 44);
    }

    private void firstFault() {
        e.sentence("Terms 1", "FAULT: the place (from 0 on) of the first letter of the first ITEM that is not so.");
        fault("x", 0);
        fault("r1;x", 3);
        fault("r1;x;x;", 3);
        fault("r1;x;r2;", 3);
        fault("r1;r12;x;", 3);
        fault("r1;r2;c0,0,0,0;", 6);
        fault("r1;c0,9,1,0;m0,0,1,0;", 3);
        fault("r1;m0,0,1,0;c0,9,1,0;", 3);
        fault("r1;c0,0,1,0;m0,1,1,1;", 12);
        // At its last letter, or where the text ends, the fault is still the item's first letter.
        fault("r123456:", 0);
        fault("r1;c03,00,09,20;", 3);
        fault("r1;c03,00,09,19", 3);
        fault("r1;m03,09,09,01;", 3);
        fault(LONGEST, NONE);
        for (int n = 1; n < LONGEST.length(); n++) {
            int last = LONGEST.lastIndexOf(';', n - 1) + 1;
            fault(LONGEST.substring(0, n), last == n ? NONE : last);
        }
        fault(LONGEST + "r", 149);
        fault(LONGEST + "c0,0,1,0;", 149);
        fault(LONGEST + "m0,1,1,0;", 149);
        fault(LONGEST + "r000000;", 149);
    }

    private void laid() {
        e.sentence("Terms 1", "LAID is a TEXT without FAULT, of a CELL at least (NO else; at first " + FIRST + ").");
        fault("", NONE);
        fault("r0;", NONE);
        e.due("of one cell", Due.laid("r0;").count(0), 1);
        fault("c0,0,1,0;", 0);
        fault("m0,1,1,0;", 0);
        RemorseWall x = new RemorseWall();
        RemorseWall y = Due.laid(FIRST);
        y.wipe();
        e.same("at first, and laid so", x, y);
    }

    // ---- promises 1 to 5.

    private void newObject() {
        e.sentence("Promise 1", "As told; THE TEXT is empty.");
        RemorseWall x = new RemorseWall();
        int[] counts = {18, 6, 5, 3, 0, 6, 0, 5, 9, 0, 0, 0, 0};
        for (int what = 0; what < counts.length; what++) {
            e.due("count(" + what + ")", x.count(what), counts[what]);
        }
        for (int i = 0; i < 18; i++) {
            e.due("high(" + i + ")", x.high(i), i == 8 ? 3 : i == 13 ? 1 : i == 16 ? 2 : 0);
        }
        e.due("the text is empty: no fault", x.fault(), NONE);
        e.due("nor is there anything to lay", x.lay(), NO);
        e.due("nothing to undo", x.undo(), NO);
        e.due("nothing that comes back", x.back(), NO);
        e.due("nothing to forget", x.forget(), 0);
        e.due("nothing to wipe", x.wipe(), 0);
        e.due("its first letter", x.write('r'), 1);
        RemorseWall y = new RemorseWall();
        RemorseWall z = new RemorseWall();
        z.stroke(0, 0);
        z.pass(20);
        z.write('c');
        e.same("what another object does is not its own", y, new RemorseWall());
    }

    private void write() {
        e.sentence("Promise 2", "A letter (32 to 126, as in ASCII) comes behind THE TEXT: how long it is.");
        RemorseWall x = new RemorseWall();
        int length = 0;
        for (int letter = 32; letter <= 126; letter++) {
            length++;
            e.due("write(" + letter + ")", x.write(letter), length);
        }
        e.due("how many there are", x.count(12), 95);
        RemorseWall y = new RemorseWall();
        Due.write(y, "r1");
        y.write('2');
        y.write(';');
        y.lay();
        e.due("it comes behind: cells", y.count(0), 2);
        e.due("it comes behind: the first", y.high(0), 1);
        e.due("it comes behind: the second", y.high(1), 2);
        RemorseWall z = Due.laid("r3;");
        e.due("behind a text that is laid", z.write('r'), 4);
    }

    private static RemorseWall fullText() {
        RemorseWall x = Scenes.lived();
        x.wipe();
        Due.write(x, LONGEST + Scenes.times("r", 51));
        return x;
    }

    private void writeRefused() {
        e.sentence("Promise 2", "BAD; FULL.");
        int[] none = {31, 127, 30, 128, 0, -1, -32, -126, 10, 256 + 'r', 65536 + 'r', -65536 + 'r'};
        for (int letter : none) {
            e.leaves("write(" + letter + ")", Scenes::lived, x -> x.write(letter), BAD);
            e.leaves("write(" + letter + ") on a full text", TextEdgesTest::fullText, x -> x.write(letter), BAD);
        }
        for (int letter : Edges.FAR) {
            e.leaves("write(" + letter + ")", Scenes::lived, x -> x.write(letter), BAD);
        }
        for (int letter : new int[] {32, 'r', 126}) {
            e.leaves("write(" + letter + ") on a full text", TextEdgesTest::fullText, x -> x.write(letter), FULL);
        }
        RemorseWall x = fullText();
        e.due("no room left", x.write('r'), FULL);
        e.due("wiped", x.wipe(), 200);
        e.due("room again", x.write('r'), 1);
    }

    private void wipe() {
        e.sentence("Promise 3", "THE TEXT is empty: how long it was.");
        RemorseWall x = new RemorseWall();
        e.due("wipe() of nothing", x.wipe(), 0);
        x.write(' ');
        e.due("wipe() of one letter", x.wipe(), 1);
        e.due("wipe() again", x.wipe(), 0);
        Due.write(x, Scenes.times("x", 200));
        e.due("wipe() of a full text", x.wipe(), 200);
        e.due("how long it is then", x.count(12), 0);
        e.due("its fault then", x.fault(), NONE);
        e.due("lay() of it", x.lay(), NO);
        for (int n = 1; n <= 200; n++) {
            e.due("room anew, letter " + n, x.write('x'), n);
        }
        e.due("and no more", x.write('x'), FULL);
        RemorseWall y = Scenes.lived();
        y.wipe();
        Due.write(y, Scenes.LIVED + "r");
        e.same("the text alone goes", y, Scenes.lived());
    }

    private void fault() {
        e.sentence("Promise 4", "FAULT.");
        RemorseWall x = new RemorseWall();
        x.write('x');
        e.due("at place 0", x.fault(), 0);
        x.wipe();
        Due.write(x, LONGEST + "x");
        e.due("as far behind as can be", x.fault(), 149);
        e.due("asked again", x.fault(), 149);
        e.leaves("fault() of a text with one", Scenes::lived, w -> w.fault(), 55);
    }

    private void faultNone() {
        e.sentence("Promise 4", "NONE.");
        RemorseWall x = new RemorseWall();
        e.due("of the empty text", x.fault(), NONE);
        Due.write(x, "r0;");
        e.due("of the shortest with a cell", x.fault(), NONE);
        Due.write(x, "r");
        e.due("of that and a letter", x.fault(), 3);
        x.wipe();
        e.due("of a text wiped", x.fault(), NONE);
        e.leaves("fault() of a text without one", () -> Scenes.wiped(Scenes.lived()), w -> w.fault(), NONE);
    }

    private void lay() {
        e.sentence("Promise 5", "LAID: how many CELLS; YEAR 0, nothing PARDONED, SEEN, UNDONE, KEPT; THE TEXT stays.");
        for (int rows = 1; rows <= 4; rows++) {
            for (int width = 1; width <= 6; width++) {
                RemorseWall x = Scenes.lived();
                x.wipe();
                Due.write(x, Scenes.times("r" + Scenes.times("2", width) + ";", rows) + "c0,0,1,0;");
                e.due(rows + " rows of " + width, x.lay(), rows * width);
                int[] counts = {rows * width, width, 1, 0, 0, 2 * rows * width, 0, 1, 0, 0, 0, 0,
                    rows * (width + 2) + 9};
                for (int what = 0; what < counts.length; what++) {
                    e.due("then count(" + what + ")", x.count(what), counts[what]);
                }
                e.due("nothing is pardoned", x.matter(0, 4), 0);
                e.due("nothing to undo", x.undo(), NO);
                e.due("nothing is kept", x.back(), NO);
                e.due("nothing is seen", x.mind(1, 0), 2);
                e.due("the text can be laid again", x.lay(), rows * width);
            }
        }
        RemorseWall y = Scenes.lived();
        y.wipe();
        Due.write(y, FIRST);
        e.due("laid over a wall that lived", y.lay(), 18);
        RemorseWall z = Due.laid(FIRST);
        e.same("as laid on a new object", y, z);
        RemorseWall small = Due.laid(LONGEST);
        small.wipe();
        Due.write(small, "r9;");
        e.due("a smaller wall", small.lay(), 1);
        e.same("nothing stays of the larger one", small, Due.laid("r9;"));
        RemorseWall fewer = Due.laid(LONGEST);
        fewer.wipe();
        Due.write(fewer, "r900;c0,0,1,0;m0,1,1,0;");
        fewer.lay();
        e.due("twenty years of a wall with fewer cases", fewer.pass(20), 20);
        e.due("by the one that it tells alone", fewer.count(5), 29);
        e.due("strokes of the one maid alone", fewer.count(8), 1);
    }

    private void layRefused() {
        e.sentence("Promise 5", "NO.");
        e.leaves("lay() of a text with a fault", Scenes::lived, x -> x.lay(), NO);
        e.leaves("lay() of the empty text", () -> Scenes.wiped(Scenes.lived()), x -> x.lay(), NO);
        e.leaves("lay() of a full text", TextEdgesTest::fullText, x -> x.lay(), NO);
        for (String text : new String[] {"c0,0,1,0;", "m0,1,1,0;", ";", "r;", "r1", "r1;x", "r1;r2;r3;r4;r5;"}) {
            e.leaves("lay() of " + text, () -> {
                RemorseWall x = Scenes.wiped(Scenes.lived());
                Due.write(x, text);
                return x;
            }, x -> x.lay(), NO);
        }
    }
}
