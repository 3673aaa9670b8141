import java.lang.reflect.InvocationTargetException;
import java.lang.reflect.Method;
import java.util.ArrayList;
import java.util.Comparator;
import java.util.List;

/** Nothing is thrown, whatever the numbers at a call and however it stands. */
public final class BoundsTest {
    private static final Due DUE = new Due("BoundsTest");
    private static final int[] NUMBERS = {0, 1, 2, 3, 5, 8, 9, 11, 17, 20, 40, 41, 60, 61, 200, 999, 9999,
        10000, -1, -2, -3, -4, -5, 32, 126, 127, 1 << 16, 1 << 30, Integer.MAX_VALUE,
        Integer.MAX_VALUE - 1, Integer.MIN_VALUE, Integer.MIN_VALUE + 1};

    public static void main(String[] args) throws IllegalAccessException {
        List<Method> calls = new ArrayList<>();
        for (Method m : RemorseWall.class.getDeclaredMethods()) {
            if (java.lang.reflect.Modifier.isPublic(m.getModifiers())) {
                calls.add(m);
            }
        }
        calls.sort(Comparator.comparing(Method::getName));
        for (RemorseWall wall : walls()) {
            for (Method call : calls) {
                every(wall, call);
            }
        }
        anyOrder(calls);
        DUE.end();
    }

    private static List<RemorseWall> walls() {
        List<RemorseWall> walls = new ArrayList<>();
        walls.add(new RemorseWall());
        walls.add(Due.laid("r0;"));
        walls.add(Due.laid("r9;r9;r9;r9;m3,9,9,3;"));
        walls.add(Due.laid("r999999;r999999;r999999;r999999;c0,0,9,0;c1,23,9,0;c2,0,9,0;c2,23,9,19;"
                + "c3,5,9,0;c3,18,1,0;m1,9,9,23;m1,1,1,0;m3,9,9,11;"));
        RemorseWall late = new RemorseWall();
        for (int i = 0; i < 60; i++) {
            late.pass(20);
            late.pass(1);
        }
        for (int c = 0; c < 5; c++) {
            late.pardon(c);
        }
        walls.add(late);
        return walls;
    }

    private static void every(RemorseWall wall, Method call) throws IllegalAccessException {
        int n = call.getParameterCount();
        int step = n > 3 ? 7 : 1;
        int all = (int) Math.pow(NUMBERS.length, n);
        for (int i = 0; i < all; i += n > 3 ? 997 * step : step) {
            Object[] numbers = new Object[n];
            int rest = i;
            for (int k = 0; k < n; k++) {
                numbers[k] = NUMBERS[rest % NUMBERS.length];
                rest /= NUMBERS.length;
            }
            call(wall, call, numbers);
        }
    }

    private static void anyOrder(List<Method> calls) throws IllegalAccessException {
        long row = 5;
        for (int run = 0; run < 200; run++) {
            RemorseWall wall = new RemorseWall();
            for (int i = 0; i < 512; i++) {
                row = row * 6364136223846793005L + 1442695040888963407L;
                Method call = calls.get((int) ((row >>> 33) % calls.size()));
                Object[] numbers = new Object[call.getParameterCount()];
                for (int k = 0; k < numbers.length; k++) {
                    row = row * 6364136223846793005L + 1442695040888963407L;
                    int n = (int) (row >>> 33);
                    numbers[k] = run % 3 == 0 ? n : NUMBERS[n % (run % 3 == 1 ? 8 : NUMBERS.length)];
                }
                call(wall, call, numbers);
            }
        }
    }

    private static void call(RemorseWall wall, Method call, Object[] numbers) throws IllegalAccessException {
        String told = call.getName() + java.util.Arrays.toString(numbers);
        try {
            int answer = (Integer) call.invoke(wall, numbers);
            DUE.holds(told + " answers in its bounds: " + answer, answer >= -4 && answer <= 100000000);
        } catch (InvocationTargetException e) {
            DUE.holds(told + " threw " + e.getCause(), false);
        }
    }
}
