import java.nio.charset.StandardCharsets;
import java.util.NoSuchElementException;
import java.util.function.LongSupplier;

/** What the tests share: texts put on the TAPE, answers compared, refusals told apart. */
final class Bench {
    static final long MISSING = Long.MIN_VALUE;
    static final long WRONG = Long.MIN_VALUE + 1;
    private static int checks = 0;
    private static int faults = 0;

    private Bench() {
    }

    static void due(String call, long got, long want) {
        checks++;
        if (got != want) {
            faults++;
            System.out.println(call + " answered " + told(got) + ", due is " + told(want));
        }
    }

    /** The answer of a call; MISSING or WRONG, if it throws what the document names; anything else goes on up. */
    static long answer(LongSupplier call) {
        try {
            return call.getAsLong();
        } catch (NoSuchElementException e) {
            return MISSING;
        } catch (IllegalArgumentException e) {
            return WRONG;
        }
    }

    static void missing(String call, LongSupplier run) {
        due(call, answer(run), MISSING);
    }

    static void wrong(String call, LongSupplier run) {
        due(call, answer(run), WRONG);
    }

    static void putBytes(SnuffMill x, byte[] bytes) {
        for (int i = 0; i < bytes.length; i += 20) {
            int[] five = new int[5];
            for (int k = 0; k < 20; k++) {
                int b = i + k < bytes.length ? bytes[i + k] & 255 : 0;
                five[k / 4] |= b << 24 - 8 * (k % 4);
            }
            x.feed(five[0], five[1], five[2], five[3], five[4]);
        }
    }

    static int put(SnuffMill x, String text) {
        byte[] bytes = text.getBytes(StandardCharsets.ISO_8859_1);
        putBytes(x, bytes);
        return bytes.length;
    }

    static int mill(SnuffMill x, String text) {
        return x.mill(put(x, text));
    }

    static int law(SnuffMill x, String text) {
        return x.law(put(x, text));
    }

    static int work(SnuffMill x, String text) {
        return x.work(put(x, text));
    }

    static int stack(SnuffMill x, String text) {
        return x.stack(put(x, text));
    }

    static int book(SnuffMill x, String text) {
        return x.book(put(x, text));
    }

    static SnuffMill of(String mill) {
        SnuffMill x = new SnuffMill();
        if (mill(x, mill) < 0) {
            throw new IllegalStateException("a test's own mill has a fault: " + mill);
        }
        return x;
    }

    /** Checks what a JAR holds and how old it is. */
    static void jarDue(String when, SnuffMill x, int jar, int... want) {
        for (int what = 0; what < want.length; what++) {
            due(when + ": jar(" + jar + ", " + (what == 4 ? 5 : what) + ")", x.jar(jar, what == 4 ? 5 : what), want[what]);
        }
    }

    static void end() {
        System.out.println(checks + " answers, " + faults + " not as due");
        if (faults != 0 || checks == 0) {
            System.exit(1);
        }
    }

    private static String told(long answer) {
        return answer == MISSING ? "NoSuchElementException"
                : answer == WRONG ? "IllegalArgumentException" : Long.toString(answer);
    }
}
