import com.sun.management.ThreadMXBean;
import java.lang.management.ManagementFactory;

/** All is made with the object, and little of it: no call makes anything. */
public final class RoomTest {
    private static final Due DUE = new Due("RoomTest");
    private static final int WALLS = 200;

    public static void main(String[] args) {
        ThreadMXBean thread = (ThreadMXBean) ManagementFactory.getThreadMXBean();
        long answers = callAll(new RemorseWall());
        thread.getCurrentThreadAllocatedBytes();

        RemorseWall[] walls = new RemorseWall[WALLS];
        long start = thread.getCurrentThreadAllocatedBytes();
        for (int i = 0; i < WALLS; i++) {
            walls[i] = new RemorseWall();
        }
        long made = (thread.getCurrentThreadAllocatedBytes() - start) / WALLS;
        DUE.holds("a new object takes " + made + " bytes", made > 0 && made < 12000);

        start = thread.getCurrentThreadAllocatedBytes();
        for (int i = 0; i < WALLS; i++) {
            answers += callAll(walls[i]);
        }
        made = thread.getCurrentThreadAllocatedBytes() - start;
        DUE.holds("the calls of " + WALLS + " objects make " + made + " bytes", made < 1000);
        DUE.holds("they answered", answers != 0);
        DUE.end();
    }

    private static long callAll(RemorseWall x) {
        long sum = x.count(5) + x.high(8) + x.matter(0, 5) + x.maid(0, 4) + x.fault();
        sum += x.smooth(0, 8, -1) + x.round(1, 4, -1) + x.chairs(3) + x.pardons(20, 1);
        sum += x.see(7, 6) + x.mind(20, 0) + x.deep(0, 20, 0) + x.slip(1, 8, 8, 3, 0) + x.evening(5, 60, 0);
        sum += x.stroke(1, 8) + x.pass(20) + x.keep() + x.pardon(1) + x.undo() + x.back() + x.forget();
        sum += x.behind(20, 7) + x.hollowed(0);
        String text = "r1234;c0,1,2,3;m1,2,3,0;";
        for (int i = 0; i < text.length(); i++) {
            sum += x.write(text.charAt(i));
        }
        return sum + x.lay() + x.wipe();
    }
}
