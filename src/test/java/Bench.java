import java.io.IOException;
import java.nio.charset.StandardCharsets;
import java.nio.file.Files;
import java.nio.file.Path;
import java.util.NoSuchElementException;
import java.util.function.LongSupplier;

/** What the tests share: texts put on the TAPE, answers compared, refusals told apart. */
final class Bench {
    static final long MISSING = Long.MIN_VALUE;
    static final long WRONG = Long.MIN_VALUE + 1;
    private static final Path DOCUMENT = Path.of("../shared/DOC.md");
    private static int checks = 0;
    private static int faults = 0;
    private static String sentence = "";
    private static String document = "";

    private Bench() {
    }

    static void due(String call, long got, long want) {
        checks++;
        if (got != want) {
            faults++;
            System.out.println((sentence.isEmpty() ? "" : "'" + sentence + "': ")
                + call + " answered " + told(got) + ", due is " + told(want));
        }
    }

    /** A test of its own for words of the document that name a boundary case; they must stand there so. */
    static void edge(String words, Runnable test) {
        int before = checks;
        sentence = words;
        due("these words stand in the document", document().contains(words) ? 1 : 0, 1);
        test.run();
        due("this test looks at something", checks > before + 1 ? 1 : 0, 1);
        sentence = "";
    }

    private static String document() {
        if (document.isEmpty()) {
            try {
                document = Files.readString(DOCUMENT).replaceAll("\\s+", " ");
            } catch (IOException e) {
                throw new IllegalStateException("the document can't be read", e);
            }
        }
        return document;
    }

    /** The answer of a call; MISSING or WRONG, if it throws what the document names; anything else goes on up. */
    static long answer(LongSupplier call) {
        try {
            return call.getAsLong();
        } catch (NoSuchElementException e) {
            return MISSING;
        } catch (IllegalArgumentException e) {
            return WRONG;
        }
    }

    static void missing(String call, LongSupplier run) {
        due(call, answer(run), MISSING);
    }

    static void wrong(String call, LongSupplier run) {
        due(call, answer(run), WRONG);
    }

    static void putBytes(SnuffMill x, byte[] bytes) {
        for (int i = 0; i < bytes.length; i += 20) {
            int[] five = new int[5];
            for (int k = 0; k < 20; k++) {
                int b = i + k < bytes.length ? bytes[i + k] & 255 : 0;
                five[k / 4] |= b << 24 - 8 * (k % 4);
            }
            x.feed(five[0], five[1], five[2], five[3], five[4]);
        }
    }

    static int put(SnuffMill x, String text) {
        byte[] bytes = text.getBytes(StandardCharsets.ISO_8859_1);
        putBytes(x, bytes);
        return bytes.length;
    }

    static int mill(SnuffMill x, String text) {
        return x.mill(put(x, text));
    }

    static int law(SnuffMill x, String text) {
        return x.law(put(x, text));
    }

    static int work(SnuffMill x, String text) {
        return x.work(put(x, text));
    }

    static int stack(SnuffMill x, String text) {
        return x.stack(put(x, text));
    }

    static int book(SnuffMill x, String text) {
        return x.book(put(x, text));
    }

    /** Reads a text as a MILL (m), LAW (l), WORK (w), STACK (s) or BOOK (b). */
    static int read(SnuffMill x, char kind, String text) {
        int n = put(x, text);
        switch (kind) {
            case 'm': return x.mill(n);
            case 'l': return x.law(n);
            case 'w': return x.work(n);
            case 's': return x.stack(n);
            default: return x.book(n);
        }
    }

    /** All that can be seen of an object without much ado, in one line; some sixty calls. */
    static String state(SnuffMill x) {
        StringBuilder line = new StringBuilder();
        for (int what = 0; what <= 12; what++) {
            line.append(x.told(what)).append(' ');
        }
        for (int jar = 0; jar < x.told(0); jar++) {
            line.append("jar ");
            for (int what = 0; what <= 5; what++) {
                line.append(x.jar(jar, what)).append(' ');
            }
            line.append(x.sneeze(jar)).append(' ').append(x.stays(jar, 0)).append(' ');
        }
        for (int stone = 0; stone < x.told(1); stone++) {
            line.append("stone ").append(x.stone(stone, 0)).append(' ');
        }
        for (int sieve = 0; sieve < x.told(2); sieve++) {
            line.append("sieve ").append(x.sieve(sieve, 0)).append(' ').append(x.sieve(sieve, 1)).append(' ');
        }
        line.append("book ").append(x.fits(0)).append(" count ").append(x.count(0)).append(' ').append(x.count(2));
        return line.toString();
    }

    static void stateDue(String when, SnuffMill x, String want) {
        String got = state(x);
        boolean same = got.equals(want);
        due(same ? when : when + ": is " + got + ", was " + want + ":", same ? 1 : 0, 1);
    }

    static SnuffMill of(String mill) {
        SnuffMill x = new SnuffMill();
        if (mill(x, mill) < 0) {
            throw new IllegalStateException("a test's own mill has a fault: " + mill);
        }
        return x;
    }

    /** Checks what a JAR holds and how old it is. */
    static void jarDue(String when, SnuffMill x, int jar, int... want) {
        for (int what = 0; what < want.length; what++) {
            due(when + ": jar(" + jar + ", " + (what == 4 ? 5 : what) + ")", x.jar(jar, what == 4 ? 5 : what), want[what]);
        }
    }

    static void end() {
        System.out.println(checks + " answers, " + faults + " not as due");
        if (faults != 0 || checks == 0) {
            System.exit(1);
        }
    }

    private static String told(long answer) {
        return answer == MISSING ? "NoSuchElementException"
                : answer == WRONG ? "IllegalArgumentException" : Long.toString(answer);
    }
}
