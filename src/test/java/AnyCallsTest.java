import java.lang.reflect.InvocationTargetException;
import java.lang.reflect.Method;
import java.lang.reflect.Modifier;
import java.util.ArrayList;
import java.util.Comparator;
import java.util.List;
import java.util.Random;

/**
 * Any calls with any numbers: none throws, what is refused changes nothing that is told,
 * and no ton and no HEAT is lost on the way through the kiln.
 */
public final class AnyCallsTest {
    private static final Due DUE = new Due("AnyCallsTest");
    private static final int[] EDGES = {
        Integer.MIN_VALUE, Integer.MIN_VALUE + 1, -1000, -10, -1, 0, 1, 2, 3, 4, 5, 6, 7, 9, 10, 23, 24, 25, 30, 99,
        100, 101, 250, 500, 999, 1000, 1001, 10000, 10001, 99999, 100000, 100001, 477218589, Integer.MAX_VALUE,
    };

    public static void main(String[] args) throws IllegalAccessException {
        List<Method> calls = callsOfTheFace();
        DUE.holds("the face has calls", calls.size() == 40 - 1);
        for (int seed = 0; seed < 1500; seed++) {
            run(calls, new Random(seed), seed);
        }
        DUE.end();
    }

    private static List<Method> callsOfTheFace() {
        List<Method> calls = new ArrayList<>();
        for (Method m : KilnLine.class.getDeclaredMethods()) {
            if (Modifier.isPublic(m.getModifiers())) {
                calls.add(m);
            }
        }
        calls.sort(Comparator.comparing(Method::getName));
        return calls;
    }

    /** What is answered behind 512 calls is free, but no call may throw then either. */
    private static void run(List<Method> calls, Random random, int seed) throws IllegalAccessException {
        KilnLine x = new KilnLine();
        Method favourite = calls.get(random.nextInt(calls.size()));
        int ahead = random.nextInt(400);
        long bagged = 0;
        for (int i = 0; i < 900; i++) {
            Method m = random.nextInt(3) == 0 ? favourite : calls.get(random.nextInt(calls.size()));
            Object[] numbers = numbersFor(m, random);
            List<Long> before = i == ahead ? told(x) : null;
            long answer = answerOf(x, m, numbers, seed);
            if (m.getName().equals("bag") && answer > 0) {
                bagged += (Integer) numbers[1];
            }
            if (i == ahead) {
                boolean refused = m.getReturnType() == int.class && answer < 0;
                DUE.holds(m.getName() + " was refused, seed " + seed, !refused || before.equals(told(x)));
                nothingIsLost(x, bagged, seed);
            }
        }
    }

    private static Object[] numbersFor(Method m, Random random) {
        Object[] numbers = new Object[m.getParameterCount()];
        boolean small = random.nextInt(4) != 0;
        for (int k = 0; k < numbers.length; k++) {
            if (m.getParameterTypes()[k] == boolean.class) {
                numbers[k] = random.nextInt(4) == 0;
            } else if (small) {
                numbers[k] = random.nextInt(random.nextBoolean() ? 8 : 120);
            } else {
                numbers[k] = EDGES[random.nextInt(EDGES.length)];
            }
        }
        return numbers;
    }

    private static long answerOf(KilnLine x, Method m, Object[] numbers, int seed) throws IllegalAccessException {
        try {
            return ((Number) m.invoke(x, numbers)).longValue();
        } catch (InvocationTargetException thrown) {
            DUE.holds(m.getName() + " threw " + thrown.getCause() + ", seed " + seed, false);
            return 0;
        }
    }

    private static List<Long> told(KilnLine x) {
        List<Long> all = new ArrayList<>();
        all.add(x.digest());
        all.add(x.upper());
        all.add(x.lower());
        all.add(x.asked());
        all.add((long) x.read());
        all.add((long) x.passed());
        all.add((long) x.first());
        for (int what = 0; what <= 6; what++) {
            all.add((long) x.out(what));
        }
        for (int i = 0; i < 3; i++) {
            all.add((long) x.lot(i, 0));
            all.add((long) x.lot(i, 1));
            all.add((long) x.strokeSpread(i));
        }
        return all;
    }

    private static void nothingIsLost(KilnLine x, long bagged, int seed) {
        long stuff = 0;
        long heat = 0;
        long stored = 0;
        for (int z = 0; z < 4; z++) {
            stuff += x.zone(z, 0);
            heat += x.zone(z, 1);
        }
        for (int s = 0; s < 3; s++) {
            stored += x.silo(s, 0);
        }
        long[] sums = new long[5];
        for (int what = 0; what < 5; what++) {
            x.sum(what);
            sums[what] = x.asked();
        }
        DUE.is("feed, seed " + seed, sums[0], stuff + sums[2]);
        DUE.is("fuel, seed " + seed, sums[1], heat + sums[3] + sums[4]);
        DUE.is("tons OUT, seed " + seed, sums[2], stored + bagged);
        DUE.is("SHARES, seed " + seed, x.shareOf(0) + x.shareOf(1) + x.shareOf(2) + x.shareOf(3), 1000);
    }
}
