import java.util.ArrayList;
import java.util.List;

/**
 * The edges of the words of Terms on BAD, NO, NONE and FULL, for every call of the face alike: each
 * number's last value on both sides and the first one beyond, and what goes ahead of what.
 */
public final class RefusedEdgesTest {
    private static final int BAD = Edges.BAD, NO = Edges.NO, FULL = Edges.FULL, NONE = Edges.NONE;

    private interface Numbered {
        int on(RemorseWall x, int[] a);
    }

    /** A call, and for each of its numbers the least and the most that is told. */
    private record Face(String name, Numbered call, int... bounds) {
        int numbers() {
            return bounds.length / 2;
        }

        int[] all(boolean most) {
            int[] a = new int[numbers()];
            for (int i = 0; i < a.length; i++) {
                a[i] = bounds[2 * i + (most ? 1 : 0)];
            }
            return a;
        }

        boolean canBe() {
            for (int i = 0; i < numbers(); i++) {
                if (bounds[2 * i] > bounds[2 * i + 1]) {
                    return false;
                }
            }
            return true;
        }
    }

    private final Edges e;

    private RefusedEdgesTest(Edges e) {
        this.e = e;
    }

    public static void main(String[] args) {
        Edges e = new Edges("RefusedEdgesTest");
        all(e);
        e.end();
    }

    static void all(Edges e) {
        RefusedEdgesTest t = new RefusedEdgesTest(e);
        t.noneThatIsTold();
        t.suchAsThereAre();
        t.notAsThingsStand();
        t.thereIsNone();
        t.full();
        t.inThisOrder();
        t.nothingChanges();
        t.constants();
    }

    /** All calls with numbers; smooth's k has no most. */
    private static List<Face> face(RemorseWall x) {
        int cell = x.count(0) - 1;
        int kase = x.count(2) - 1;
        int maid = x.count(3) - 1;
        List<Face> face = new ArrayList<>();
        face.add(new Face("write", (w, a) -> w.write(a[0]), 32, 126));
        face.add(new Face("high", (w, a) -> w.high(a[0]), 0, cell));
        face.add(new Face("matter", (w, a) -> w.matter(a[0], a[1]), 0, kase, 0, 5));
        face.add(new Face("maid", (w, a) -> w.maid(a[0], a[1]), 0, maid, 0, 4));
        face.add(new Face("stroke", (w, a) -> w.stroke(a[0], a[1]), 0, maid, 0, cell));
        face.add(new Face("pass", (w, a) -> w.pass(a[0]), 1, 20));
        face.add(new Face("pardon", (w, a) -> w.pardon(a[0]), 0, kase));
        face.add(new Face("behind", (w, a) -> w.behind(a[0], a[1]), 0, 20, 0, cell));
        face.add(new Face("hollowed", (w, a) -> w.hollowed(a[0]), 0, cell));
        face.add(new Face("smooth", (w, a) -> w.smooth(a[0], a[1], a[2]), 0, maid, 0, cell, -1, Integer.MAX_VALUE));
        face.add(new Face("round", (w, a) -> w.round(a[0], a[1], a[2]), 0, maid, 1, 5, -1, 4));
        face.add(new Face("chairs", (w, a) -> w.chairs(a[0]), 0, 40));
        face.add(new Face("pardons", (w, a) -> w.pardons(a[0], a[1]), 1, 20, 0, 1));
        face.add(new Face("see", (w, a) -> w.see(a[0], a[1]), 0, cell, 0, 40));
        face.add(new Face("mind", (w, a) -> w.mind(a[0], a[1]), 1, 20, 0, 1));
        face.add(new Face("deep", (w, a) -> w.deep(a[0], a[1], a[2]), 0, kase, 1, 20, 0, 1));
        face.add(new Face("slip", (w, a) -> w.slip(a[0], a[1], a[2], a[3], a[4]), 0, maid, 0, cell, 0, 8, 0, 10, 0, 1));
        face.add(new Face("evening", (w, a) -> w.evening(a[0], a[1], a[2]), 0, 9999, 1, 60, 0, 1));
        face.add(new Face("count", (w, a) -> w.count(a[0]), 0, 12));
        return face;
    }

    /** Full in every way: of letters, of what is seen and of what is kept; nothing is left, all is pardoned. */
    private static RemorseWall filled() {
        RemorseWall x = Scenes.spent();
        while (x.count(9) < 8) {
            x.see(0, 0);
        }
        x.keep();
        Due.write(x, Scenes.times("r", 150));
        return x;
    }

    private static RemorseWall small() {
        return Due.laid("r0;");
    }

    private static RemorseWall large() {
        return Due.laid(Scenes.times("r123456;", 4) + Scenes.times("c3,23,9,0;", 6) + Scenes.times("m3,9,9,23;", 3));
    }

    private void bounds(String where, Edges.Maker maker) {
        for (Face f : face(maker.make())) {
            for (int side = 0; side < 2; side++) {
                int[] good = f.all(side == 1);
                if (f.canBe()) {
                    e.holds(where + f.name() + " takes " + told(good), f.call().on(maker.make(), good) != BAD);
                }
                for (int i = 0; i < f.numbers(); i++) {
                    int least = f.bounds()[2 * i];
                    int most = f.bounds()[2 * i + 1];
                    taken(where, maker, f, with(good, i, least));
                    taken(where, maker, f, with(good, i, most));
                    refused(where, maker, f, with(good, i, least - 1));
                    if (most < Integer.MAX_VALUE) {
                        refused(where, maker, f, with(good, i, most + 1));
                    }
                }
            }
        }
    }

    private static int[] with(int[] numbers, int i, int number) {
        int[] a = numbers.clone();
        a[i] = number;
        return a;
    }

    private static String told(int[] a) {
        return java.util.Arrays.toString(a);
    }

    private void taken(String where, Edges.Maker maker, Face f, int[] a) {
        if (f.canBe()) {
            e.holds(where + f.name() + " takes " + told(a), f.call().on(maker.make(), a) != BAD);
        }
    }

    private void refused(String where, Edges.Maker maker, Face f, int[] a) {
        e.leaves(where + f.name() + told(a), maker, x -> f.call().on(x, a), BAD);
    }

    private void noneThatIsTold() {
        e.sentence("Terms", "BAD: a number is none that is told");
        bounds("on a new object ", RemorseWall::new);
        bounds("where all was done ", Scenes::lived);
    }

    private void suchAsThereAre() {
        e.sentence("Terms", "(CELLS, CASES, MAIDS: such as there are).");
        bounds("on the smallest wall ", RefusedEdgesTest::small);
        bounds("on the largest wall ", RefusedEdgesTest::large);
        RemorseWall x = large();
        e.due("the last cell", x.high(23), 6);
        e.due("the last case", x.matter(5, 1), 23);
        e.due("the last maid", x.maid(2, 3), 23);
        x.wipe();
        Due.write(x, "r0;");
        x.lay();
        e.due("the last cell, on a wall laid since", x.high(23), BAD);
        e.due("the second cell", x.high(1), BAD);
        e.due("the first case", x.matter(0, 1), BAD);
        e.due("the first maid", x.maid(0, 3), BAD);
        e.due("the first maid's stroke", x.stroke(0, 0), BAD);
        e.due("the first case's pardon", x.pardon(0), BAD);
        e.due("no maid, no chance", x.slip(0, 0, 0, 0, 0), BAD);
        e.due("no case, no depth", x.deep(0, 1, 0), BAD);
    }

    private void notAsThingsStand() {
        e.sentence("Terms", "NO: not as things stand.");
        e.leaves("lay() of a fault", Scenes::lived, x -> x.lay(), NO);
        e.leaves("lay() of no cell", () -> Scenes.wiped(Scenes.lived()), x -> x.lay(), NO);
        e.leaves("stroke, not next", Scenes::lived, x -> x.stroke(0, 3), NO);
        e.leaves("stroke, none left", Scenes::spent, x -> x.stroke(0, 1), NO);
        e.leaves("pass beyond 999", () -> Scenes.inYear(999, Scenes.LIVED), x -> x.pass(1), NO);
        e.leaves("pardon of one that is", Scenes::lived, x -> x.pardon(1), NO);
        e.leaves("undo() of nothing", () -> Due.laid(Scenes.LIVED), x -> x.undo(), NO);
        e.leaves("round of more than are left", Scenes::lived, x -> x.round(1, 3, 0), NO);
        e.leaves("back() of nothing", () -> Due.laid(Scenes.LIVED), x -> x.back(), NO);
    }

    private void thereIsNone() {
        e.sentence("Terms", "NONE: there is none.");
        e.leaves("fault() of a text without one", () -> Due.laid(Scenes.LIVED), x -> x.fault(), NONE);
        e.leaves("hollowed(5)", Scenes::lived, x -> x.hollowed(5), NONE);
        e.leaves("smooth(0, 2, -1)", Scenes::lived, x -> x.smooth(0, 2, -1), NONE);
        e.leaves("smooth(0, 5, 3)", Scenes::lived, x -> x.smooth(0, 5, 3), NONE);
        e.leaves("round(0, 4, 4)", Scenes::lived, x -> x.round(0, 4, 4), NONE);
        e.leaves("pardons(1, 0)", Scenes::spent, x -> x.pardons(1, 0), NONE);
        e.leaves("mind(3, 1)", Scenes::lived, x -> x.mind(3, 1), NONE);
        e.leaves("deep(0, 2, 1)", Scenes::lived, x -> x.deep(0, 2, 1), NONE);
    }

    private void full() {
        e.sentence("Terms", " FULL. ");
        e.leaves("write(32)", RefusedEdgesTest::filled, x -> x.write(32), FULL);
        e.leaves("see(0, 0)", RefusedEdgesTest::filled, x -> x.see(0, 0), FULL);
        e.leaves("keep()", RefusedEdgesTest::filled, x -> x.keep(), FULL);
        e.due("letters", filled().count(12), 200);
        e.due("what is seen", filled().count(9), 8);
        e.due("what is kept", filled().count(11), 2);
        RemorseWall x = filled();
        x.wipe();
        x.forget();
        x.back();
        e.due("room for a letter", x.write(32), 1);
        e.due("room for what is seen", x.see(0, 0), 1);
        e.due("room for what is kept", x.keep(), 2);
    }

    private void inThisOrder() {
        e.sentence("Terms", "Of several the first in this order, whatever the order at a call; ");
        bounds("with no room and nothing left ", RefusedEdgesTest::filled);
        bounds("in year 999 ", () -> Scenes.inYear(999, Scenes.LIVED));
        // Two numbers that are none, and whatever else: BAD.
        for (Edges.Maker maker : new Edges.Maker[] {Scenes::lived, RefusedEdgesTest::filled, RefusedEdgesTest::small}) {
            for (Face f : face(maker.make())) {
                int[] low = f.all(false);
                int[] high = f.all(true);
                for (int i = 0; i < f.numbers(); i++) {
                    low[i]--;
                    high[i]++;
                }
                refused("all too low ", maker, f, low);
                if (!f.name().equals("smooth")) {
                    refused("all too high ", maker, f, high);
                }
            }
        }
        e.leaves("NO ahead of NONE", Scenes::spent, x -> x.round(0, 3, 4), NO);
        e.leaves("NO ahead of NONE", Scenes::lived, x -> x.round(1, 3, 3), NO);
        e.leaves("BAD ahead of NO", Scenes::spent, x -> x.round(0, 3, 5), BAD);
        e.leaves("BAD ahead of NO", Scenes::spent, x -> x.stroke(0, 6), BAD);
        e.leaves("BAD ahead of NO", Scenes::spent, x -> x.stroke(2, 1), BAD);
        e.leaves("BAD ahead of NO", Scenes::spent, x -> x.pardon(3), BAD);
        e.leaves("BAD ahead of NONE", Scenes::spent, x -> x.pardons(21, 0), BAD);
        e.leaves("BAD ahead of NONE", Scenes::lived, x -> x.smooth(0, 2, -2), BAD);
        e.leaves("BAD ahead of FULL", RefusedEdgesTest::filled, x -> x.write(31), BAD);
        e.leaves("BAD ahead of FULL", RefusedEdgesTest::filled, x -> x.see(0, 41), BAD);
    }

    private void nothingChanges() {
        e.sentence("Terms", "nothing changes then.");
        for (Edges.Maker maker : new Edges.Maker[] {RemorseWall::new, Scenes::lived, Scenes::spent,
            RefusedEdgesTest::filled, RefusedEdgesTest::small}) {
            RemorseWall x = maker.make();
            for (Face f : face(x)) {
                for (int i = 0; i < f.numbers(); i++) {
                    e.due(f.name() + ", number " + i, f.call().on(x, with(f.all(false), i, f.bounds()[2 * i] - 1)), BAD);
                    e.due(f.name() + ", number " + i, f.call().on(x, with(f.all(true), i, Integer.MIN_VALUE)), BAD);
                }
            }
            e.same("behind all of them", x, maker.make());
        }
        RemorseWall y = filled();
        y.stroke(0, 1);
        y.pardon(0);
        y.write('r');
        y.see(0, 0);
        y.keep();
        y.lay();
        y.round(0, 1, 0);
        y.pardons(1, 0);
        e.same("behind NO, NONE and FULL", y, filled());
    }

    private void constants() {
        e.sentence("Terms", "BAD: ");
        e.due("BAD", RemorseWall.BAD, -1);
        e.sentence("Terms", "NO: ");
        e.due("NO", RemorseWall.NO, -2);
        e.sentence("Terms", "FULL. ");
        e.due("FULL", RemorseWall.FULL, -3);
        e.sentence("Terms", "NONE: ");
        e.due("NONE", RemorseWall.NONE, -4);
    }
}
