import java.lang.reflect.Method;
import java.lang.reflect.Modifier;
import java.nio.file.Files;
import java.nio.file.Path;
import java.util.Arrays;
import java.util.TreeSet;
import java.util.regex.Matcher;
import java.util.regex.Pattern;

/** README.md's example answers as it says, and README.md names every call of the face and every test. */
public final class ReadmeTest {
    private static final Path README = Path.of("README.md");
    private static final Pattern CALL = Pattern.compile("(?m)^x\\.(\\w+)\\(([^)]*)\\);\\s*// (-?\\w+).*$");

    private ReadmeTest() {
    }

    public static void main(String[] args) throws Exception {
        String text = Files.readString(README);
        example(text);
        for (Method m : SnuffMill.class.getDeclaredMethods()) {
            if (Modifier.isPublic(m.getModifiers())) {
                named(text, m.getName());
            }
        }
        for (String file : new TreeSet<>(Arrays.asList(Path.of("src/test/java").toFile().list()))) {
            if (file.endsWith("Test.java")) {
                named(text, file.substring(0, file.length() - 5));
            }
        }
        Bench.end();
    }

    private static void named(String text, String name) {
        boolean found = text.contains("`" + name + "`") || text.contains("x." + name + "(");
        Bench.due("README.md names " + name, found ? 1 : 0, 1);
    }

    private static void example(String text) {
        SnuffMill x = new SnuffMill();
        Matcher call = CALL.matcher(text);
        int many = 0;
        while (call.find()) {
            many++;
            String[] told = call.group(2).isEmpty() ? new String[0] : call.group(2).split(", ");
            int[] numbers = Arrays.stream(told).mapToInt(Integer::decode).toArray();
            Bench.due(call.group(), answer(x, call.group(1), numbers), due(call.group(3)));
        }
        long lines = text.lines().filter(line -> line.startsWith("x.")).count();
        Bench.due("each line of the example is tried", many, lines);
        Bench.due("there is an example", many > 0 ? 1 : 0, 1);
    }

    private static long due(String word) {
        switch (word) {
            case "NoSuchElementException": return Bench.MISSING;
            case "IllegalArgumentException": return Bench.WRONG;
            default: return Long.parseLong(word);
        }
    }

    private static long answer(SnuffMill x, String name, int[] n) {
        switch (name) {
            case "feed": return x.feed(n[0], n[1], n[2], n[3], n[4]);
            case "mill": return x.mill(n[0]);
            case "law": return x.law(n[0]);
            case "work": return x.work(n[0]);
            case "fault": return x.fault();
            case "undo": return x.undo();
            case "sneeze": return x.sneeze(n[0]);
            case "told": return Bench.answer(() -> x.told(n[0]));
            case "jar": return Bench.answer(() -> x.jar(n[0], n[1]));
            case "ground": return x.ground(n[0], n[1], n[2]);
            case "status": return x.status(n[0]);
            default: throw new IllegalStateException("the test knows no " + name);
        }
    }
}
