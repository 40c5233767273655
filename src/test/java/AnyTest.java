import java.lang.reflect.InvocationTargetException;
import java.lang.reflect.Method;
import java.lang.reflect.Modifier;
import java.util.ArrayList;
import java.util.Arrays;
import java.util.Comparator;
import java.util.List;
import java.util.NoSuchElementException;
import java.util.Random;

/**
 * Any call with any numbers in any state: nothing but the two exceptions of the document is thrown, each
 * is counted once by status(), and each answer is the Oracle's.
 */
public final class AnyTest {
    private static final int RUNS = 400;
    /** 512 are promised; the last text may take some more than these. */
    private static final int CALLS = 490;
    private static final int[] EDGES = {Integer.MIN_VALUE, Integer.MIN_VALUE + 1, -65536, -100, -2, -1, 31, 32, 33, 48, 49,
        63, 64, 99, 100, 150, 151, 400, 401, 600, 601, 999, 1000, 1001, 9999, 10000, 65536, 99999, 100000, 1 << 30,
        Integer.MAX_VALUE - 1, Integer.MAX_VALUE};
    private static final String[] MILLS = {
        "",
        "jar 5 0 0 0;",
        "stone 10 10 10;sieve 2;",
        "jar 0 0 0 0;jar 900 1 2 3;sieve 0;",
        "jar 100 40 20 10;jar 0 0 0 0;jar 5 0 0 95;jar 0 0 50 0;stone 5 10 2;stone 0 0 10;sieve 0;sieve 1;dust 10;",
        "jar 1 2 3 4;jar 999 999 999 999;jar 90 0 0 0;jar 0 0 0 0;jar 7 7 7 7;jar 0 9 0 0;stone 1 2 3;stone 0 0 0;"
            + "stone 10 10 10;stone 9 9 9;sieve 0;sieve 1;sieve 2;sieve 2;dust 50;"};
    private static final String[] LAWS = {"0-1", "99", "fine*husk*all*all*all", "age*9+day-jar", "all/(fine-mid)%jar"};
    private static final String[] WORKS = {"", "day;", "again 40[day;tear 0;];", "pour 0 1;pour 1 2;", "sell 0;sell 1;sell 2;",
        "sift 0 0 1 2;sift 1 2 0 1;", "again 9[grind 0 0;grind 1 2;];", "scoop 1 0 400;", "again 40[again 40[day;];];"};
    private static final String[] LINES = {"0;", "1;0;1;", "0 5;", "1 0;3 0;", "0 0;1 0;2 0;3 0;", "0;;", "0 1"};

    private final Random random;
    private final String run;
    private final SnuffMill x = new SnuffMill();
    private final Oracle o = new Oracle();
    private final int[] refused = new int[2];
    private int calls;

    private AnyTest(int seed) {
        random = new Random(seed);
        run = "run " + seed + ": ";
    }

    public static void main(String[] args) throws Exception {
        List<Method> face = new ArrayList<>();
        for (Method call : SnuffMill.class.getDeclaredMethods()) {
            if (Modifier.isPublic(call.getModifiers())) {
                face.add(call);
            }
        }
        // the order in which the machine tells the methods is its own
        face.sort(Comparator.comparing(Method::getName));
        for (int seed = 0; seed < RUNS; seed++) {
            new AnyTest(seed).play(face);
        }
        Bench.end();
    }

    private void play(List<Method> face) throws Exception {
        read("mill", MILLS[random.nextInt(MILLS.length)]);
        while (calls < CALLS) {
            switch (random.nextInt(24)) {
                case 0: read("law", pick(LAWS)); break;
                case 1: read("work", pick(WORKS)); break;
                case 2: read("stack", pick(LINES)); break;
                case 3: read("book", pick(LINES)); break;
                default: any(face.get(random.nextInt(face.size()))); break;
            }
        }
        Bench.due(run + "status(0)", x.status(0), refused[0]);
        Bench.due(run + "status(1)", x.status(1), refused[1]);
    }

    private String pick(String[] texts) {
        return texts[random.nextInt(texts.length)];
    }

    private void read(String kind, String text) throws Exception {
        int from = x.count(1);
        calls++;
        // a text is read from the TAPE's head, so what any calls have left there goes first
        if (from > 0) {
            same(SnuffMill.class.getDeclaredMethod("mill", int.class), new Object[] {from});
        }
        for (int i = 0; i < text.length(); i += 20) {
            Object[] five = {0, 0, 0, 0, 0};
            for (int k = 0; k < 20; k++) {
                int sign = i + k < text.length() ? text.charAt(i + k) : ' ';
                five[k / 4] = (Integer) five[k / 4] << 8 | sign;
            }
            same(SnuffMill.class.getDeclaredMethod("feed", int.class, int.class, int.class, int.class, int.class), five);
        }
        same(SnuffMill.class.getDeclaredMethod(kind, int.class), new Object[] {text.length()});
    }

    private void any(Method call) throws Exception {
        Object[] numbers = new Object[call.getParameterCount()];
        boolean wild = random.nextInt(3) == 0;
        for (int i = 0; i < numbers.length; i++) {
            int kind = random.nextInt(wild ? 3 : 12);
            numbers[i] = kind == 0 ? EDGES[random.nextInt(EDGES.length)] : kind == 1 ? random.nextInt() : random.nextInt(7);
        }
        same(call, numbers);
    }

    private void same(Method call, Object[] numbers) throws Exception {
        Method twin = Oracle.class.getDeclaredMethod(call.getName(), call.getParameterTypes());
        calls++;
        long got = answer(call, x, numbers);
        long want = answer(twin, o, numbers);
        Bench.due(run + call.getName() + Arrays.toString(numbers), got, want);
        if (got == Bench.MISSING || got == Bench.WRONG) {
            refused[got == Bench.MISSING ? 0 : 1]++;
        }
    }

    /** The very two classes count: an exception of a class below them, or of any other, ends the test. */
    private static long answer(Method call, Object of, Object[] numbers) throws Exception {
        try {
            return ((Number) call.invoke(of, numbers)).longValue();
        } catch (InvocationTargetException e) {
            Class<?> thrown = e.getCause().getClass();
            if (thrown == NoSuchElementException.class) {
                return Bench.MISSING;
            }
            if (thrown == IllegalArgumentException.class) {
                return Bench.WRONG;
            }
            throw e;
        }
    }
}
