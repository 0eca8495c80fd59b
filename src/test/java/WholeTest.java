import java.lang.reflect.InvocationTargetException;
import java.lang.reflect.Method;
import java.util.Arrays;
import java.util.HashMap;
import java.util.Map;
import java.util.Random;
import java.util.Set;
import java.util.TreeSet;

/** All promises at once: runs of 512 calls with any numbers, each answered as PlainLine does. */
public final class WholeTest {
    private static final Due DUE = new Due("WholeTest");

    /** What a run calls most: the calls of one part, those that change it more often. */
    private static final String[] PARTS = {
        "stroke stroke stroke cut place spread strokeSpread clear asked digest",
        "stock share rule aim hour hour hour hour read passed shareOf mix number upper lower",
        "hour hour hour hour hour hour rule share read passed",
        "step step step start zone warmth out sum asked first finding",
        "step step step step bag bag lot lot silo start",
        "day price price price copy copy need need plan plan plan tear asked findings",
        "day price price need plan asked warmth number cut sum finding findings upper lower count digest",
    };

    /** The least and the most of each number, where it has bounds of its own. */
    private static final String[] BOUNDS = {
        "cut 0 9", "place 0 9 0 1", "strokeSpread 0 9", "shareOf 0 3", "mix 0 3", "aim 1 1000 1 1000",
        "rule 0 5 0 100", "zone 0 3 0 2", "warmth 0 3 0 2", "out 0 6", "sum 0 4", "silo 0 2 0 1", "bag 0 2 1 60",
        "lot 0 3 0 1", "day 0 6", "price 0 6 0 23 0 1000", "tear 0 6", "copy 0 6 0 23 0 6 0 23 0 12",
        "need 0 23 0 300", "plan 0 6 1 40", "count 0 4", "findings 1 5",
    };

    /** Answers without which the runs would not have looked at everything. */
    private static final String[] NEEDED = {
        "stroke BAD", "stroke FULL", "stroke fine", "cut BAD", "cut STATE", "cut fine", "place BAD", "place fine",
        "spread NONE", "spread fine", "strokeSpread BAD", "strokeSpread fine", "clear fine", "stock BAD", "stock fine",
        "share BAD", "share fine", "shareOf BAD", "shareOf fine", "mix BAD", "mix fine", "number FINDING 4",
        "number fine", "aim BAD", "aim fine", "rule BAD", "rule fine", "hour FULL", "hour fine", "read NONE",
        "read fine", "passed fine", "step BAD", "step fine", "start fine", "zone BAD", "zone fine", "warmth BAD",
        "warmth FINDING 3", "warmth FINDING 4", "warmth fine", "out BAD", "out NONE", "out fine", "sum BAD",
        "sum fine", "first NONE", "first fine", "silo BAD", "silo fine", "bag BAD", "bag STATE", "bag fine",
        "lot BAD", "lot NONE", "lot fine", "day BAD", "day fine", "price BAD", "price FINDING 1", "price FINDING 2",
        "price fine", "tear BAD", "tear FINDING 1", "tear fine", "copy BAD", "copy FINDING 1", "copy FINDING 2",
        "copy FINDING 5", "copy fine", "need BAD", "need fine", "plan BAD", "plan FINDING 1", "plan NONE",
        "plan fine", "upper fine", "lower fine", "asked fine", "count BAD", "count fine", "finding fine",
        "findings BAD", "findings fine",
    };

    private static final Map<String, Method> REAL = methodsOf(KilnLine.class);
    private static final Map<String, Method> PLAIN = methodsOf(PlainLine.class);
    private static final Map<String, int[]> BOUNDS_OF = boundsOfCalls();
    private static final Set<String> SEEN = new TreeSet<>();

    public static void main(String[] args) throws IllegalAccessException {
        for (int seed = 0; seed < 700; seed++) {
            run(seed);
        }
        for (String answer : NEEDED) {
            DUE.holds("the runs had " + answer, SEEN.contains(answer));
        }
        DUE.end();
    }

    private static Map<String, Method> methodsOf(Class<?> of) {
        Map<String, Method> methods = new HashMap<>();
        for (Method m : of.getDeclaredMethods()) {
            methods.put(m.getName(), m);
        }
        return methods;
    }

    private static Map<String, int[]> boundsOfCalls() {
        Map<String, int[]> all = new HashMap<>();
        for (String line : BOUNDS) {
            String[] words = line.split(" ");
            all.put(words[0], Arrays.stream(words).skip(1).mapToInt(Integer::parseInt).toArray());
        }
        return all;
    }

    private static void run(int seed) throws IllegalAccessException {
        Random random = new Random(seed);
        KilnLine x = new KilnLine();
        PlainLine plain = new PlainLine();
        String[] favourites = PARTS[seed % PARTS.length].split(" ");
        for (int i = 0; i < 512; i++) {
            boolean any = random.nextInt(6) == 0;
            String[] calls = any ? PARTS[random.nextInt(PARTS.length)].split(" ") : favourites;
            String call = calls[random.nextInt(calls.length)];
            Object[] numbers = numbersFor(call, random);
            long due = answerOf(PLAIN.get(call), plain, numbers);
            long got = answerOf(REAL.get(call), x, numbers);
            DUE.is("seed " + seed + ", call " + i + ": " + call + Arrays.toString(numbers), got, due);
            SEEN.add(call + " " + kindOf(call, due, plain));
        }
    }

    private static long answerOf(Method m, Object on, Object[] numbers) throws IllegalAccessException {
        try {
            return ((Number) m.invoke(on, numbers)).longValue();
        } catch (InvocationTargetException thrown) {
            if (thrown.getCause() instanceof PlainLine.Refused refused) {
                return refused.answer;
            }
            throw new IllegalStateException(m.getName() + " threw", thrown.getCause());
        }
    }

    private static String kindOf(String call, long answer, PlainLine plain) {
        if (answer >= 0 || call.equals("digest")) {
            return "fine";
        }
        return switch ((int) answer) {
            case KilnLine.BAD -> "BAD";
            case KilnLine.FULL -> "FULL";
            case KilnLine.STATE -> "STATE";
            case KilnLine.NONE -> "NONE";
            default -> "FINDING " + plain.finding();
        };
    }

    private static Object[] numbersFor(String call, Random random) {
        return switch (call) {
            case "stroke" -> strokeNumbers(random);
            case "stock" -> wholeNumbers(random, near(random, 0, 3));
            case "share" -> wholeNumbers(random);
            case "hour" -> new Object[] {random.nextInt(4) == 0};
            case "step" -> stepNumbers(random);
            default -> boundNumbers(random, BOUNDS_OF.getOrDefault(call, new int[0]));
        };
    }

    private static Object[] boundNumbers(Random random, int[] bounds) {
        Object[] numbers = new Object[bounds.length / 2];
        for (int k = 0; k < numbers.length; k++) {
            numbers[k] = near(random, bounds[2 * k], bounds[2 * k + 1]);
        }
        return numbers;
    }

    /** Within the bounds for the most part, often at one of them, now and then beyond. */
    private static int near(Random random, int least, int most) {
        return switch (random.nextInt(24)) {
            case 0 -> least - 1;
            case 1 -> most + 1;
            case 2 -> random.nextBoolean() ? Integer.MIN_VALUE : Integer.MAX_VALUE;
            case 3, 4 -> least;
            case 5, 6 -> most;
            case 7, 8, 9, 10, 11, 12 -> least + random.nextInt(Math.min(most - least, 3) + 1);
            default -> least + random.nextInt(most - least + 1);
        };
    }

    /** The lime goes from one end to the other within 0 .. t, but for a few. */
    private static Object[] strokeNumbers(Random random) {
        int t = near(random, 1, 1000);
        int most = Math.min(Math.max(t, 0), 1000);
        int c = random.nextInt(most + 1);
        int d = (random.nextInt(most + 1) - c) / 9;
        return new Object[] {t, c, random.nextInt(8) == 0 ? near(random, d - 3, d + 3) : d};
    }

    /** Three numbers of 1000 together at the most, but for a few, behind those ahead. */
    private static Object[] wholeNumbers(Random random, int... ahead) {
        int a = random.nextInt(6) == 0 ? 1000 : random.nextInt(1001);
        int b = random.nextInt(1001 - a);
        int c = random.nextInt(6) == 0 ? near(random, 0, 1001 - a - b) : random.nextInt(1001 - a - b);
        Object[] numbers = new Object[ahead.length + 3];
        for (int k = 0; k < ahead.length; k++) {
            numbers[k] = ahead[k];
        }
        numbers[ahead.length] = a;
        numbers[ahead.length + 1] = b;
        numbers[ahead.length + 2] = c;
        return numbers;
    }

    /** Fuel that burns LOTS of all GRADES, and at times far more or none. */
    private static Object[] stepNumbers(Random random) {
        int feed = random.nextInt(6) == 0 ? near(random, 0, 1000) : random.nextInt(120);
        int fuel = switch (random.nextInt(12)) {
            case 0 -> near(random, 0, 100000);
            case 1, 2, 3 -> 0;
            default -> random.nextInt(16000);
        };
        int speed = random.nextInt(6) == 0 ? near(random, 0, 100) : 20 + random.nextInt(60);
        return new Object[] {feed, fuel, speed};
    }
}
