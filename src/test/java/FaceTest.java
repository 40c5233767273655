import java.lang.management.ManagementFactory;
import java.lang.reflect.Constructor;
import java.lang.reflect.Field;
import java.lang.reflect.Method;
import java.lang.reflect.Modifier;
import java.nio.file.Files;
import java.nio.file.Path;
import java.util.ArrayList;
import java.util.Arrays;
import java.util.List;
import java.util.TreeSet;
import java.util.regex.Matcher;
import java.util.regex.Pattern;

/** The face is the document's and no more; the source keeps to the rules that can be seen; asking makes no objects. */
public final class FaceTest {
    private static final Path SOURCE = Path.of("src/main/java/SnuffMill.java");
    private static final Path DOCUMENT = Path.of("../shared/DOC.md");

    private FaceTest() {
    }

    public static void main(String[] args) throws Exception {
        face();
        members();
        source(strip(Files.readString(SOURCE)));
        room();
        Bench.end();
    }

    private static void face() throws Exception {
        TreeSet<String> told = new TreeSet<>();
        Matcher line = Pattern.compile("^    public (?!static)(.*);$", Pattern.MULTILINE).matcher(Files.readString(DOCUMENT));
        while (line.find()) {
            told.add(line.group(1).replaceAll("\\b(int|long) [a-z]+(?=[,)])", "$1"));
        }
        TreeSet<String> found = new TreeSet<>();
        for (Constructor<?> c : SnuffMill.class.getDeclaredConstructors()) {
            found.add("SnuffMill()");
            same("the constructor is public", c.getModifiers() == Modifier.PUBLIC && c.getParameterCount() == 0);
        }
        for (Method m : SnuffMill.class.getDeclaredMethods()) {
            if (Modifier.isPublic(m.getModifiers())) {
                found.add(signature(m));
            }
        }
        same("the face: told " + told + ", found " + found, told.equals(found) && told.size() == 44);
    }

    private static String signature(Method m) {
        List<String> types = new ArrayList<>();
        Arrays.stream(m.getParameterTypes()).forEach(t -> types.add(t.getSimpleName()));
        List<String> thrown = new ArrayList<>();
        Arrays.stream(m.getExceptionTypes()).forEach(t -> thrown.add(t.getSimpleName()));
        return m.getReturnType().getSimpleName() + " " + m.getName() + "(" + String.join(", ", types) + ")"
            + (thrown.isEmpty() ? "" : " throws " + String.join(", ", thrown));
    }

    private static void members() {
        TreeSet<String> open = new TreeSet<>();
        same("public and final", SnuffMill.class.getModifiers() == (Modifier.PUBLIC | Modifier.FINAL));
        for (Method m : SnuffMill.class.getDeclaredMethods()) {
            boolean isPublic = Modifier.isPublic(m.getModifiers());
            same(m + " is public or private", isPublic || Modifier.isPrivate(m.getModifiers()));
            if (isPublic) {
                open.add(m.getName());
            }
        }
        List<Class<?>> all = new ArrayList<>(List.of(SnuffMill.class.getDeclaredClasses()));
        same("some twelve classes at most", all.size() < 12);
        all.add(SnuffMill.class);
        for (Class<?> c : all) {
            same(c + " is static", c == SnuffMill.class || Modifier.isStatic(c.getModifiers()));
            int fields = 0;
            for (Field f : c.getDeclaredFields()) {
                boolean isNone = c == SnuffMill.class && f.getName().equals("NONE");
                same(f + " is hidden", isNone || c != SnuffMill.class || Modifier.isPrivate(f.getModifiers()));
                same(f + " is final, if static", !Modifier.isStatic(f.getModifiers()) || Modifier.isFinal(f.getModifiers()));
                fields += Modifier.isStatic(f.getModifiers()) ? 0 : 1;
            }
            same(c + " has some twenty fields at most", fields <= 20);
            for (Method m : c.getDeclaredMethods()) {
                same(m + " has a name of its own", Modifier.isPublic(m.getModifiers()) || !open.contains(m.getName()));
                same(m + " has seven parameters at most", m.getParameterCount() <= 7);
            }
        }
    }

    private static String strip(String source) {
        return source.replaceAll("(?s)/\\*.*?\\*/", "").replaceAll("//[^\n]*", "").replaceAll("\"[^\"\n]*\"", "\"\"");
    }

    private static void source(String code) {
        String[] banned = {"\\btry\\b", "\\bcatch\\b", "\\bfinally\\b", "->", "::", "\\bsynchronized\\b", "\\bassert\\b",
            "\\bpackage\\b", "\\bdouble\\b", "\\bfloat\\b", "\\bSystem\\.(?!arraycopy)", "\\w+Exact\\b", "\\bprotected\\b",
            "static\\s*\\{", "\"\\s*\\+", "\\+\\s*\"", "\\bvar\\b", "\\bObject\\b"};
        for (String word : banned) {
            same("the source has no " + word, !Pattern.compile(word).matcher(code).find());
        }
        Matcher imported = Pattern.compile("import ([^;]*);").matcher(code);
        while (imported.find()) {
            same("import " + imported.group(1), imported.group(1).equals("java.util.NoSuchElementException"));
        }
        Matcher thrown = Pattern.compile("throw new (\\w+)\\(\"\"\\)").matcher(code);
        int many = 0;
        while (thrown.find()) {
            many++;
            same(thrown.group(), thrown.group(1).matches("NoSuchElementException|IllegalArgumentException"));
        }
        same("each throw is such", many == code.split("\\bthrow\\b", -1).length - 1);
        Matcher method = Pattern.compile("\n( +)(?:[\\w\\[\\]]+ )+\\w+\\([^;{]*\\{\n(?s:.*?)\n\\1\\}").matcher(code);
        while (method.find()) {
            String text = method.group();
            same("some sixty lines at most: " + text.trim().split("\n")[0], text.split("\n").length <= 60);
        }
    }

    /** All calls of a run live in one room: what is asked makes nothing, and a new object makes little. */
    private static void room() {
        com.sun.management.ThreadMXBean threads = (com.sun.management.ThreadMXBean) ManagementFactory.getThreadMXBean();
        long before = 0;
        for (int round = 0; round < 2; round++) {
            before = threads.getCurrentThreadAllocatedBytes();
            new SnuffMill();
        }
        long made = threads.getCurrentThreadAllocatedBytes() - before;
        same("a new object has " + made + " bytes", made < 30_000);
        SnuffMill x = Bench.of("jar 900 400 20 10;jar 9 0 0 0;jar 5 0 0 95;stone 5 9 2;sieve 0;sieve 1;");
        long spent = 0;
        for (int round = 0; round < 2; round++) {
            before = threads.getCurrentThreadAllocatedBytes();
            ask(x);
            spent = threads.getCurrentThreadAllocatedBytes() - before;
        }
        same("asking makes " + spent + " bytes", spent < 1000);
    }

    private static void ask(SnuffMill x) {
        x.feed(0x66696e65, 0x2b616c6c, 0x2a6a6172, 0, 0);
        x.law(12);
        x.feed(0x6461793b, 0x74656172, 0x20303b20, 0x73656c6c, 0x20303b20);
        x.work(20);
        x.image();
        x.restore();
        x.undo();
        x.span(1, 10, 8, 48, 0, 0);
        x.box(7, 99999, 0);
        x.halves(7, 1);
        x.look(0);
        x.ripens(2);
        x.milled(0, 0, 1000);
        x.shelf(0, 7, 100);
        x.fit(12, 3, 5, 0);
    }

    private static void same(String what, boolean holds) {
        Bench.due(what, holds ? 1 : 0, 1);
    }
}
