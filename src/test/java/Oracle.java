import java.math.BigInteger;
import java.util.ArrayDeque;
import java.util.ArrayList;
import java.util.Arrays;
import java.util.Deque;
import java.util.HashMap;
import java.util.HashSet;
import java.util.List;
import java.util.Map;
import java.util.NoSuchElementException;
import java.util.Set;
import java.util.TreeMap;
import java.util.function.IntPredicate;
import java.util.function.ToIntFunction;

/** The document told a second time, with the whole library and in other ways, to be compared with SnuffMill. */
final class Oracle {
    private record Token(char kind, String text, int place) {
    }

    private static final class Fault extends RuntimeException {
        private static final long serialVersionUID = 1L;
        final int reason;
        final int place;

        Fault(int reason, int place) {
            this.reason = reason;
            this.place = place;
        }
    }

    private static final class Jar {
        int[] grams = new int[4];
        int age;

        Jar copy() {
            Jar other = new Jar();
            other.grams = grams.clone();
            other.age = age;
            return other;
        }

        int all() {
            return Arrays.stream(grams).sum();
        }

        int fine() {
            return all() == 0 ? 0 : 1000 * grams[0] / all();
        }
    }

    private static final class World {
        List<Jar> jars = new ArrayList<>();
        Set<Integer> torn = new HashSet<>();
        int day;
        int lost;
        int money;

        World copy() {
            World other = new World();
            for (Jar jar : jars) {
                other.jars.add(jar.copy());
            }
            other.torn.addAll(torn);
            other.day = day;
            other.lost = lost;
            other.money = money;
            return other;
        }
    }

    private record Image(World world, List<World> works) {
    }

    private interface Step {
        void run(World world);
    }

    private StringBuilder tape = new StringBuilder();
    private int fault = -1;
    private List<int[]> stones = new ArrayList<>();
    private List<Integer> meshes = new ArrayList<>();
    private int dust = 5;
    private World world = new World();
    private ToIntFunction<Map<String, Integer>> law = null;
    private List<Integer> stack = new ArrayList<>();
    private Map<Integer, Integer> book = new TreeMap<>();
    private Deque<World> works = new ArrayDeque<>();
    private Deque<Image> images = new ArrayDeque<>();
    private int refusedSteps;
    private int begun;
    private int doneSteps;
    private int workRefused;
    private int missing;
    private int wrong;

    // ---- tokens ----

    private List<Token> tokens;
    private int next;
    private int opened;

    private void cut(String text) {
        tokens = new ArrayList<>();
        next = 0;
        opened = 0;
        int i = 0;
        while (i < text.length()) {
            char c = text.charAt(i);
            int from = i;
            if (c == ' ') {
                i++;
                continue;
            }
            IntPredicate digit = d -> d >= '0' && d <= '9';
            IntPredicate letter = d -> d >= 'a' && d <= 'z';
            IntPredicate run = digit.test(c) ? digit : letter.test(c) ? letter : null;
            i++;
            while (run != null && i < text.length() && run.test(text.charAt(i))) {
                i++;
            }
            tokens.add(new Token(run == digit ? 'n' : run == letter ? 'w' : 's', text.substring(from, i), from));
        }
        tokens.add(new Token('e', "", text.length()));
    }

    private Token peek() {
        return tokens.get(next);
    }

    private boolean is(String text) {
        return peek().kind != 'e' && peek().text.equals(text);
    }

    private void sign(String text) {
        if (!is(text)) {
            throw new Fault(1, peek().place);
        }
        next++;
    }

    private int number(int least, int most) {
        Token token = peek();
        if (token.kind != 'n') {
            throw new Fault(1, token.place);
        }
        BigInteger value = new BigInteger(token.text);
        if (value.compareTo(BigInteger.valueOf(least)) < 0 || value.compareTo(BigInteger.valueOf(most)) > 0) {
            throw new Fault(2, token.place);
        }
        next++;
        return value.intValue();
    }

    private Token word(List<String> known) {
        Token token = peek();
        if (token.kind != 'w' || !known.contains(token.text)) {
            throw new Fault(1, token.place);
        }
        next++;
        return token;
    }

    private void open(Token token) {
        opened++;
        if (opened > 6) {
            throw new Fault(3, token.place);
        }
    }

    private interface Reading {
        int read();
    }

    private int text(int n, int most, boolean isWork, Reading reading) {
        if (n < 0 || n > most || n > tape.length()) {
            wrong++;
            throw new IllegalArgumentException();
        }
        String text = tape.substring(0, n);
        tape.setLength(0);
        fault = -1;
        if (isWork && works.size() == 16) {
            return -20;
        }
        cut(text);
        try {
            return reading.read();
        } catch (Fault f) {
            fault = f.place;
            return f.reason - 10;
        }
    }

    // ---- texts ----

    int feed(int a, int b, int c, int d, int e) {
        if (tape.length() > 580) {
            return -1;
        }
        for (int number : new int[] {a, b, c, d, e}) {
            tape.append((char) (number >>> 24)).append((char) (number >>> 16 & 255));
            tape.append((char) (number >>> 8 & 255)).append((char) (number & 255));
        }
        return tape.length();
    }

    int mill(int n) {
        return text(n, 600, false, this::readMill);
    }

    private int readMill() {
        World told = new World();
        List<int[]> toldStones = new ArrayList<>();
        List<Integer> toldMeshes = new ArrayList<>();
        int toldDust = 5;
        int clauses = 0;
        while (peek().kind != 'e') {
            Token word = word(List.of("jar", "stone", "sieve", "dust"));
            clauses++;
            boolean full = word.text.equals("jar") && told.jars.size() == 6
                    || word.text.equals("stone") && toldStones.size() == 4
                    || word.text.equals("sieve") && toldMeshes.size() == 4;
            if (clauses > 60 || full) {
                throw new Fault(3, word.place);
            }
            if (word.text.equals("jar")) {
                Jar jar = new Jar();
                for (int g = 0; g < 4; g++) {
                    jar.grams[g] = number(0, 999);
                }
                told.jars.add(jar);
            } else if (word.text.equals("stone")) {
                toldStones.add(new int[] {number(0, 10), number(0, 10), number(0, 10)});
            } else if (word.text.equals("sieve")) {
                toldMeshes.add(number(0, 2));
            } else {
                toldDust = number(0, 50);
            }
            sign(";");
        }
        world = told;
        stones = toldStones;
        meshes = toldMeshes;
        dust = toldDust;
        law = null;
        stack = new ArrayList<>();
        book = new TreeMap<>();
        works.clear();
        images.clear();
        refusedSteps = 0;
        return world.jars.size();
    }

    int law(int n) {
        return text(n, 150, false, () -> {
            ToIntFunction<Map<String, Integer>> told = sum();
            if (peek().kind != 'e') {
                throw new Fault(1, peek().place);
            }
            law = told;
            return 1;
        });
    }

    private ToIntFunction<Map<String, Integer>> sum() {
        ToIntFunction<Map<String, Integer>> left = product();
        while (is("+") || is("-")) {
            String sign = tokens.get(next++).text;
            ToIntFunction<Map<String, Integer>> a = left;
            ToIntFunction<Map<String, Integer>> b = product();
            left = sign.equals("+") ? v -> a.applyAsInt(v) + b.applyAsInt(v) : v -> a.applyAsInt(v) - b.applyAsInt(v);
        }
        return left;
    }

    private ToIntFunction<Map<String, Integer>> product() {
        ToIntFunction<Map<String, Integer>> left = unit();
        while (is("*") || is("/") || is("%")) {
            String sign = tokens.get(next++).text;
            ToIntFunction<Map<String, Integer>> a = left;
            ToIntFunction<Map<String, Integer>> b = unit();
            left = v -> {
                BigInteger x = BigInteger.valueOf(a.applyAsInt(v));
                BigInteger y = BigInteger.valueOf(b.applyAsInt(v));
                if (sign.equals("*")) {
                    return x.multiply(y).intValue();
                }
                if (y.signum() == 0) {
                    return 0;
                }
                return (sign.equals("/") ? x.divide(y) : x.remainder(y)).intValue();
            };
        }
        return left;
    }

    private ToIntFunction<Map<String, Integer>> unit() {
        Token token = peek();
        if (token.kind == 'n') {
            int value = number(0, 999);
            return v -> value;
        }
        if (is("(")) {
            open(token);
            next++;
            ToIntFunction<Map<String, Integer>> inside = sum();
            sign(")");
            opened--;
            return inside;
        }
        word(List.of("fine", "mid", "coarse", "husk", "all", "age", "day", "jar", "least", "most"));
        if (!token.text.equals("least") && !token.text.equals("most")) {
            return v -> v.get(token.text);
        }
        open(token);
        sign("[");
        ToIntFunction<Map<String, Integer>> a = sum();
        sign(",");
        ToIntFunction<Map<String, Integer>> b = sum();
        sign("]");
        opened--;
        boolean least = token.text.equals("least");
        return v -> least ? Math.min(a.applyAsInt(v), b.applyAsInt(v)) : Math.max(a.applyAsInt(v), b.applyAsInt(v));
    }

    int work(int n) {
        return text(n, 150, true, () -> {
            List<Step> steps = steps(false);
            works.push(world.copy());
            begun = 0;
            doneSteps = 0;
            workRefused = 0;
            for (Step step : steps) {
                step.run(world);
            }
            refusedSteps = workRefused;
            return doneSteps;
        });
    }

    private List<Step> steps(boolean inside) {
        List<Step> all = new ArrayList<>();
        while (inside ? !is("]") : peek().kind != 'e') {
            all.add(step());
            sign(";");
        }
        return all;
    }

    private int jarNumber() {
        return number(0, world.jars.size() - 1);
    }

    private Step step() {
        Token word = word(List.of("grind", "sift", "pour", "scoop", "tear", "sell", "day", "again"));
        switch (word.text) {
            case "grind": {
                int s = number(0, stones.size() - 1);
                int j = jarNumber();
                return counted(w -> grind(w, s, j));
            }
            case "sift": {
                int s = number(0, meshes.size() - 1);
                int a = jarNumber();
                int b = jarNumber();
                int c = jarNumber();
                return counted(w -> sift(w, s, a, b, c));
            }
            case "pour": {
                int a = jarNumber();
                int b = jarNumber();
                return counted(w -> w.jars.get(a).all() > 0 && scoop(w, a, b, w.jars.get(a).all()));
            }
            case "scoop": {
                int a = jarNumber();
                int b = jarNumber();
                int n = number(1, 999);
                return counted(w -> scoop(w, a, b, n));
            }
            case "tear": {
                int s = number(0, meshes.size() - 1);
                return counted(w -> w.torn.remove(s) || w.torn.add(s));
            }
            case "sell": {
                int j = jarNumber();
                return counted(w -> sell(w, j));
            }
            case "day":
                return counted(w -> w.day < 400 && age(w));
            default: {
                open(word);
                int times = number(0, 40);
                sign("[");
                List<Step> body = steps(true);
                sign("]");
                opened--;
                return w -> {
                    if (begun >= 200) {
                        return;
                    }
                    begun++;
                    for (int i = 0; i < times && begun < 200; i++) {
                        for (Step step : body) {
                            step.run(w);
                        }
                    }
                };
            }
        }
    }

    private interface Deed {
        boolean done(World world);
    }

    private Step counted(Deed deed) {
        return w -> {
            if (begun >= 200) {
                return;
            }
            begun++;
            if (deed.done(w)) {
                doneSteps++;
            } else {
                workRefused++;
            }
        };
    }

    int stack(int n) {
        return text(n, 60, false, () -> {
            List<Integer> told = new ArrayList<>();
            while (peek().kind != 'e') {
                int place = peek().place;
                told.add(number(0, meshes.size() - 1));
                if (told.size() > 8) {
                    throw new Fault(3, place);
                }
                sign(";");
            }
            stack = told;
            return told.size();
        });
    }

    int book(int n) {
        return text(n, 60, false, () -> {
            Map<Integer, Integer> told = new TreeMap<>();
            while (peek().kind != 'e') {
                int place = peek().place;
                int grain = number(0, 3);
                if (told.containsKey(grain)) {
                    throw new Fault(2, place);
                }
                told.put(grain, number(0, 9999));
                sign(";");
            }
            book = told;
            return told.size();
        });
    }

    int fault() {
        return fault;
    }

    // ---- steps ----

    private boolean grind(World w, int stone, int jar) {
        Jar j = w.jars.get(jar);
        if (j.all() == 0) {
            return false;
        }
        int[] before = j.grams.clone();
        for (int g = 1; g < 4; g++) {
            int down = before[g] * stones.get(stone)[g - 1] / 10;
            j.grams[g] -= down;
            j.grams[g - 1] += down;
        }
        int blown = j.grams[0] * dust / 100;
        j.grams[0] -= blown;
        w.lost += blown;
        return true;
    }

    private int[] fall(World w, int sieve, int[] grams) {
        int[] fallen = new int[4];
        int mesh = meshes.get(sieve);
        for (int g = 0; g <= mesh; g++) {
            fallen[g] = grams[g];
        }
        if (w.torn.contains(sieve)) {
            fallen[mesh + 1] = grams[mesh + 1] / 2;
        }
        return fallen;
    }

    private static int total(int[] grams) {
        return Arrays.stream(grams).sum();
    }

    private boolean sift(World w, int sieve, int a, int b, int c) {
        Jar from = w.jars.get(a);
        Jar under = w.jars.get(b);
        Jar over = w.jars.get(c);
        int[] fallen = fall(w, sieve, from.grams);
        int[] stayed = new int[4];
        for (int g = 0; g < 4; g++) {
            stayed[g] = from.grams[g] - fallen[g];
        }
        if (from.all() == 0 || a == b || a == c || b == c
                || under.all() + total(fallen) > 9999 || over.all() + total(stayed) > 9999) {
            return false;
        }
        give(under, fallen, from.age);
        give(over, stayed, from.age);
        from.grams = new int[4];
        from.age = 0;
        return true;
    }

    private static void give(Jar to, int[] grams, int age) {
        if (total(grams) == 0) {
            return;
        }
        to.age = Math.max(to.all() == 0 ? 0 : to.age, age);
        for (int g = 0; g < 4; g++) {
            to.grams[g] += grams[g];
        }
    }

    private static boolean scoop(World w, int a, int b, int n) {
        Jar from = w.jars.get(a);
        Jar to = w.jars.get(b);
        if (a == b || from.all() < n || to.all() + n > 9999) {
            return false;
        }
        int[] taken = new int[4];
        for (int i = 0, g = 0; i < n; i++) {
            while (from.grams[g] == 0) {
                g++;
            }
            from.grams[g]--;
            taken[g]++;
        }
        give(to, taken, from.age);
        if (from.all() == 0) {
            from.age = 0;
        }
        return true;
    }

    private boolean canSell(World w, int jar) {
        return w.jars.get(jar).all() > 0 && power(w, jar) >= 50;
    }

    private boolean sell(World w, int jar) {
        if (!canSell(w, jar)) {
            return false;
        }
        w.money += w.jars.get(jar).all() / 10;
        w.jars.set(jar, new Jar());
        return true;
    }

    private static boolean age(World w) {
        for (Jar jar : w.jars) {
            jar.age += jar.all() > 0 ? 1 : 0;
        }
        w.day++;
        return true;
    }

    private int power(World w, int jar) {
        Jar j = w.jars.get(jar);
        return power(j.grams[0], j.grams[1], j.grams[2], j.grams[3], j.age, w.day, jar);
    }

    private int power(int fine, int mid, int coarse, int husk, int age, int day, int jar) {
        int all = fine + mid + coarse + husk;
        Map<String, Integer> names = new HashMap<>();
        names.put("fine", fine);
        names.put("mid", mid);
        names.put("coarse", coarse);
        names.put("husk", husk);
        names.put("all", all);
        names.put("age", age);
        names.put("day", day);
        names.put("jar", jar);
        int value = law == null ? fine * 90 / (all + 1) : law.applyAsInt(names);
        return Math.max(0, Math.min(99, value));
    }

    // ---- refusals ----

    private void thing(int number, int many) {
        if (number < 0 || number >= many) {
            missing++;
            throw new NoSuchElementException();
        }
    }

    private void right(int value, int least, int most) {
        if (value < least || value > most) {
            wrong++;
            throw new IllegalArgumentException();
        }
    }

    private List<Integer> chosen(int bits) {
        right(bits, 0, (1 << world.jars.size()) - 1);
        List<Integer> all = new ArrayList<>();
        for (int jar = 0; jar < world.jars.size(); jar++) {
            if ((bits & 1 << jar) != 0) {
                all.add(jar);
            }
        }
        return all;
    }

    private int bits(IntPredicate which) {
        int bits = 0;
        for (int jar = 0; jar < world.jars.size(); jar++) {
            bits += which.test(jar) ? 1 << jar : 0;
        }
        return bits;
    }

    /** The first JAR of the greatest value; JARS of a value below 0 are left out. */
    private int[] most(ToIntFunction<Integer> value) {
        int[] best = {-1, -1};
        for (int jar = world.jars.size() - 1; jar >= 0; jar--) {
            int v = value.applyAsInt(jar);
            if (v >= 0 && v >= best[1]) {
                best = new int[] {jar, v};
            }
        }
        return best;
    }

    private Jar at(int jar) {
        return world.jars.get(jar);
    }

    // ---- questions ----

    int undo() {
        if (works.isEmpty()) {
            return -1;
        }
        world = works.pop();
        refusedSteps = 0;
        return works.size();
    }

    int told(int what) {
        right(what, 0, 12);
        int[] all = {world.jars.size(), stones.size(), meshes.size(), dust, world.day,
            world.jars.stream().mapToInt(Jar::all).sum(), world.lost, world.money, bits(j -> at(j).all() == 0),
            world.torn.stream().mapToInt(s -> 1 << s).sum(), refusedSteps, stack.size(), book.size()};
        return all[what];
    }

    int jar(int jar, int what) {
        thing(jar, world.jars.size());
        right(what, 0, 6);
        return what < 4 ? at(jar).grams[what] : what == 4 ? at(jar).all() : what == 5 ? at(jar).age : at(jar).fine();
    }

    int stone(int stone, int what) {
        thing(stone, stones.size());
        right(what, 0, 2);
        return stones.get(stone)[what];
    }

    int sieve(int sieve, int what) {
        thing(sieve, meshes.size());
        right(what, 0, 1);
        return what == 0 ? meshes.get(sieve) : world.torn.contains(sieve) ? 1 : 0;
    }

    int sneeze(int jar) {
        thing(jar, world.jars.size());
        return power(world, jar);
    }

    int would(int fine, int mid, int coarse, int husk, int age, int day, int jar) {
        if (fine < 0 || mid < 0 || coarse < 0 || husk < 0 || age < 0 || day < 0 || jar < 0 || fine > 9999
                || mid > 9999 || coarse > 9999 || husk > 9999 || age > 400 || day > 400 || jar > 5) {
            right(-1, 0, 0);
        }
        return power(fine, mid, coarse, husk, age, day, jar);
    }

    int ground(int stone, int jar, int what) {
        thing(stone, stones.size());
        thing(jar, world.jars.size());
        right(what, 0, 4);
        World w = world.copy();
        grind(w, stone, jar);
        return what == 4 ? w.lost - world.lost : w.jars.get(jar).grams[what];
    }

    int falls(int sieve, int jar, int what) {
        thing(sieve, meshes.size());
        thing(jar, world.jars.size());
        right(what, 0, 4);
        int[] fallen = fall(world, sieve, at(jar).grams);
        return what == 4 ? total(fallen) : fallen[what];
    }

    int milled(int jar, int stone, int n) {
        thing(jar, world.jars.size());
        thing(stone, stones.size());
        right(n, 0, 1000);
        World w = world.copy();
        int times = 0;
        while (at(jar).all() > 0 && times < 100) {
            if (w.jars.get(jar).fine() >= n) {
                return times;
            }
            grind(w, stone, jar);
            times++;
        }
        return -1;
    }

    int stays(int jar, int k) {
        thing(jar, world.jars.size());
        right(k, 0, Integer.MAX_VALUE);
        List<Integer> stayed = new ArrayList<>();
        int[] left = at(jar).grams;
        for (int sieve : stack) {
            int[] fallen = fall(world, sieve, left);
            stayed.add(total(left) - total(fallen));
            left = fallen;
        }
        stayed.add(total(left));
        return k < stayed.size() ? stayed.get(k) : -1;
    }

    int halves(int jars, int what) {
        List<Integer> told = chosen(jars);
        right(what, 0, 1);
        TreeMap<Integer, Integer> byGap = new TreeMap<>();
        lots(told, 0, 0, 0, byGap);
        return what == 0 ? byGap.firstKey() : byGap.firstEntry().getValue();
    }

    private void lots(List<Integer> told, int i, int gap, int lot, Map<Integer, Integer> byGap) {
        if (i == told.size()) {
            byGap.merge(Math.abs(gap), lot, Math::min);
            return;
        }
        int all = at(told.get(i)).all();
        lots(told, i + 1, gap + all, lot | 1 << told.get(i), byGap);
        if (i > 0) {
            lots(told, i + 1, gap - all, lot, byGap);
        }
    }

    int box(int jars, int n, int what) {
        List<Integer> told = chosen(jars);
        right(n, 0, 99999);
        right(what, 0, 2);
        List<int[]> lots = new ArrayList<>();
        lots.add(new int[3]);
        for (int jar : told) {
            for (int[] lot : new ArrayList<>(lots)) {
                int grams = lot[1] + at(jar).all();
                if (at(jar).all() > 0 && grams <= n) {
                    lots.add(new int[] {lot[0] + power(world, jar), grams, lot[2] + (1 << jar)});
                }
            }
        }
        lots.sort((a, b) -> a[0] != b[0] ? b[0] - a[0] : a[1] != b[1] ? a[1] - b[1] : a[2] - b[2]);
        return lots.get(0)[what];
    }

    private List<int[]> pairs() {
        List<int[]> all = new ArrayList<>();
        for (int s = 0; s < meshes.size(); s++) {
            for (int j = 0; j < world.jars.size(); j++) {
                int[] fallen = fall(world, s, at(j).grams);
                if (at(j).all() > 0 && book.entrySet().stream().allMatch(e -> fallen[e.getKey()] == e.getValue())) {
                    all.add(new int[] {s, j});
                }
            }
        }
        return all;
    }

    int fits(int what) {
        right(what, 0, 1);
        List<int[]> all = pairs();
        return what == 0 ? all.size() : all.isEmpty() ? -1 : 10 * all.get(0)[0] + all.get(0)[1];
    }

    int look(int what) {
        right(what, 0, 1);
        int[] best = {-1, -1};
        for (int grain = 3; grain >= 0; grain--) {
            if (book.containsKey(grain)) {
                continue;
            }
            Map<Integer, Integer> left = new HashMap<>();
            for (int[] pair : pairs()) {
                left.merge(fall(world, pair[0], at(pair[1]).grams)[grain], 1, Integer::sum);
            }
            int worst = left.values().stream().mapToInt(v -> v).max().orElse(0);
            if (best[0] < 0 || worst <= best[1]) {
                best = new int[] {grain, worst};
            }
        }
        return best[what];
    }

    long fit(int n, int k, int q, int half) {
        if (n < 0 || n > 12 || k < 0 || k > 13 || q < 0 || q > 16 || half < 0 || half > 1) {
            right(-1, 0, 0);
        }
        BigInteger[] ways = new BigInteger[15];
        Arrays.fill(ways, BigInteger.ZERO);
        ways[0] = BigInteger.ONE;
        for (int i = 0; i < n; i++) {
            for (int hits = 13; hits >= 0; hits--) {
                BigInteger more = hits == 0 ? BigInteger.ZERO : ways[hits - 1].multiply(BigInteger.valueOf(q));
                ways[hits] = ways[hits].multiply(BigInteger.valueOf(16 - q)).add(more);
            }
        }
        BigInteger above = BigInteger.ZERO;
        for (int hits = k; hits < 14; hits++) {
            above = above.add(ways[hits]);
        }
        BigInteger below = BigInteger.valueOf(16).pow(n);
        BigInteger common = above.gcd(below);
        return (half == 0 ? above : below).divide(common).longValueExact();
    }

    int shops(int v, int w, int what) {
        right(v, 0, 99);
        right(w, 0, 99);
        right(what, 0, 2);
        int[][] mine = {{v / 2, v}, {w, w / 2}};
        List<int[]> rests = new ArrayList<>();
        for (int a = 0; a < 2; a++) {
            for (int b = 0; b < 2; b++) {
                if (mine[1 - a][b] <= mine[a][b] && mine[1 - b][a] <= mine[b][a]) {
                    rests.add(new int[] {10 * a + b, mine[a][b] + mine[b][a]});
                }
            }
        }
        return what == 0 ? rests.size() : rests.isEmpty() ? (what == 1 ? -1 : 0) : rests.get(0)[what - 1];
    }

    int shelf(int jar, int jars, int n) {
        thing(jar, world.jars.size());
        List<Integer> told = chosen(jars);
        right(n, 0, 99999);
        if (!told.contains(jar)) {
            return 0;
        }
        int bound = 0;
        while (bound < 10000) {
            int above = bound + 1;
            if (told.stream().mapToInt(j -> Math.min(at(j).all(), above)).sum() > n) {
                break;
            }
            bound++;
        }
        return Math.min(bound, at(jar).all());
    }

    int sharpest(int what) {
        right(what, 0, 1);
        return most(j -> at(j).all() == 0 ? -1 : power(world, j))[what];
    }

    int ripe() {
        return bits(j -> canSell(world, j));
    }

    int blend(int jar, int other) {
        thing(jar, world.jars.size());
        thing(other, world.jars.size());
        World w = world.copy();
        int all = at(jar).all();
        return all > 0 && scoop(w, jar, other, all) ? power(w, other) : -1;
    }

    int even() {
        return bits(j -> Arrays.stream(at(j).grams).filter(g -> g > 0).count() == 1);
    }

    int ripens(int jar) {
        thing(jar, world.jars.size());
        World w = world.copy();
        for (int days = 0; days < 100 && w.day <= 400; days++) {
            if (canSell(w, jar)) {
                return days;
            }
            age(w);
        }
        return -1;
    }

    int space(int jar) {
        thing(jar, world.jars.size());
        return 9999 - at(jar).all();
    }

    int oldest(int what) {
        right(what, 0, 1);
        return most(j -> at(j).all() == 0 ? -1 : at(j).age)[what];
    }

    int passes(int sieve) {
        thing(sieve, meshes.size());
        return bits(j -> at(j).all() > 0 && Arrays.equals(at(j).grams, fall(world, sieve, at(j).grams)));
    }

    int amount(int grain, int what) {
        right(grain, 0, 3);
        right(what, 0, 1);
        return what == 0 ? world.jars.stream().mapToInt(j -> j.grams[grain]).sum()
            : most(j -> at(j).grams[grain] == 0 ? -1 : at(j).grams[grain])[0];
    }

    int worth() {
        World w = world.copy();
        for (int jar = 0; jar < w.jars.size(); jar++) {
            sell(w, jar);
        }
        return w.money - world.money;
    }

    int like(int jar) {
        thing(jar, world.jars.size());
        return most(j -> j == jar || at(j).all() == 0 ? -1 : 1000 - Math.abs(at(j).fine() - at(jar).fine()))[0];
    }

    int through(int sieve, int what) {
        thing(sieve, meshes.size());
        right(what, 0, 1);
        int[] both = new int[2];
        for (Jar jar : world.jars) {
            int fallen = total(fall(world, sieve, jar.grams));
            both[0] += fallen;
            both[1] += jar.all() - fallen;
        }
        return both[what];
    }

    private long seed;

    private int draw(int many) {
        seed = (seed * 1103515245L + 12345L) & 0xffffffffL;
        return (int) (seed / 65536 % 32768) % many;
    }

    private World lived(int first, int q, int days) {
        World w = world.copy();
        seed = first & 0xffffffffL;
        int jars = w.jars.size();
        for (int i = 0; i < days; i++) {
            if (jars > 0 && !stones.isEmpty()) {
                int s = draw(stones.size());
                int j = draw(jars);
                grind(w, s, j);
            }
            if (jars > 2 && !meshes.isEmpty()) {
                int s = draw(meshes.size());
                int j = draw(jars);
                if (draw(16) < q) {
                    int k = j + 1 == jars ? 0 : j + 1;
                    sift(w, s, j, k, k + 1 == jars ? 0 : k + 1);
                }
            }
            if (jars > 0) {
                sell(w, draw(jars));
            }
            age(w);
        }
        return w;
    }

    int year(int first, int q, int days, int what) {
        right(q, 0, 16);
        right(days, 1, 48);
        right(what, 0, 3);
        World w = lived(first, q, days);
        switch (what) {
            case 0: return w.money - world.money;
            case 1: return w.jars.stream().mapToInt(Jar::all).sum();
            case 2: return w.lost - world.lost;
            default: return bits(j -> w.jars.get(j).all() == 0);
        }
    }

    int span(int first, int many, int q, int days, int what, int jar) {
        if (many < 1 || many > 10 || q < 0 || q > 16 || days < 1 || days > 48 || what < 0 || what > 2
                || jar < 0 || jar >= world.jars.size()) {
            right(-1, 0, 0);
        }
        List<Integer> money = new ArrayList<>();
        int empty = 0;
        for (int i = 0; i < many; i++) {
            World w = lived(first + i, q, days);
            money.add(w.money - world.money);
            empty += w.jars.get(jar).all() == 0 ? 1 : 0;
        }
        money.sort(null);
        return what == 0 ? money.get(0) : what == 1 ? money.get(many - 1) : empty;
    }

    int image() {
        if (images.size() == 3) {
            return -1;
        }
        List<World> kept = new ArrayList<>();
        for (World w : works) {
            kept.add(w.copy());
        }
        images.push(new Image(world.copy(), kept));
        return images.size();
    }

    int restore() {
        if (images.isEmpty()) {
            return -1;
        }
        Image image = images.pop();
        world = image.world;
        works = new ArrayDeque<>(image.works);
        refusedSteps = 0;
        return images.size();
    }

    int status(int what) {
        return what == 0 ? missing : what == 1 ? wrong : -1;
    }

    int count(int what) {
        return what == 0 ? images.size() : what == 1 ? tape.length() : what == 2 ? works.size() : -1;
    }
}
