import java.nio.charset.StandardCharsets;
import java.util.Random;
import java.util.function.LongSupplier;

/** Random runs of 512 calls at most, each answer compared with that of the Oracle; the seeds are fixed. */
public final class OracleTest {
    private static final int RUNS = 1500;
    private static final String[] BLANKS = {"", "", "", "", " ", "  "};
    private final Random random;
    private final int run;
    private SnuffMill x;
    private Oracle o;
    private int jars;
    private int stones;
    private int sieves;
    private boolean good = true;
    private final StringBuilder history = new StringBuilder();

    private OracleTest(int run) {
        this.run = run;
        random = new Random(run);
    }

    public static void main(String[] args) {
        int runs = args.length > 0 ? Integer.parseInt(args[0]) : RUNS;
        for (int run = 0; run < runs; run++) {
            new OracleTest(run).play();
        }
        Bench.end();
    }

    private void play() {
        x = new SnuffMill();
        o = new Oracle();
        int calls = random.nextInt(10) == 0 ? 0 : put(millText(), 600);
        if (calls > 0) {
            calls += endMill();
        }
        while (calls < 480 && good) {
            calls += random.nextInt(4) == 0 ? text() : question();
        }
    }

    private void same(String call, LongSupplier mine, LongSupplier theirs) {
        long want = Bench.answer(theirs);
        long got = Bench.answer(mine);
        history.append(call).append(" -> ").append(want).append('\n');
        if (got != want && good) {
            System.out.println("run " + run + ", what went ahead:\n" + history);
            good = false;
        }
        Bench.due("run " + run + ": " + call, got, want);
    }

    // ---- texts ----

    private int text() {
        int calls;
        switch (random.nextInt(12)) {
            case 0:
                calls = put(millText(), 600) + (random.nextInt(3) == 0 ? endMill() : endText(0));
                break;
            case 1: case 2: case 3:
                calls = put(lawText(), 150) + endText(1);
                break;
            case 4: case 5:
                calls = put(stackText(), 60) + endText(3);
                break;
            case 6: case 7:
                calls = put(bookText(), 60) + endText(4);
                break;
            default:
                calls = put(workText(), 150) + endText(2);
                break;
        }
        return calls;
    }

    private int length;

    private int put(String text, int most) {
        byte[] bytes = text.getBytes(StandardCharsets.ISO_8859_1);
        if (random.nextInt(6) == 0) {
            spoil(bytes);
        }
        length = Math.min(bytes.length, most);
        if (random.nextInt(20) == 0) {
            length = random.nextInt(length + 1);
        }
        int calls = 0;
        for (int i = 0; i < bytes.length && i < most; i += 20) {
            int[] f = new int[5];
            for (int k = 0; k < 20; k++) {
                f[k / 4] |= (i + k < bytes.length ? bytes[i + k] & 255 : 0) << 24 - 8 * (k % 4);
            }
            same("feed", () -> x.feed(f[0], f[1], f[2], f[3], f[4]), () -> o.feed(f[0], f[1], f[2], f[3], f[4]));
            calls++;
        }
        history.append("  text: ").append(new String(bytes, 0, length, StandardCharsets.ISO_8859_1)).append('\n');
        return calls;
    }

    private void spoil(byte[] bytes) {
        String signs = " ;[](),+-*/%0123456789azAZ\t\u00e9\u00ff";
        for (int i = random.nextInt(3); i >= 0 && bytes.length > 0; i--) {
            bytes[random.nextInt(bytes.length)] = (byte) signs.charAt(random.nextInt(signs.length()));
        }
    }

    private int endMill() {
        int calls = endText(0);
        jars = o.told(0);
        stones = o.told(1);
        sieves = o.told(2);
        return calls;
    }

    private int endText(int kind) {
        int n = random.nextInt(40) == 0 ? random.nextInt(700) - 20 : length;
        switch (kind) {
            case 0: same("mill(" + n + ")", () -> x.mill(n), () -> o.mill(n)); break;
            case 1: same("law(" + n + ")", () -> x.law(n), () -> o.law(n)); break;
            case 2: same("work(" + n + ")", () -> x.work(n), () -> o.work(n)); break;
            case 3: same("stack(" + n + ")", () -> x.stack(n), () -> o.stack(n)); break;
            default: same("book(" + n + ")", () -> x.book(n), () -> o.book(n)); break;
        }
        same("fault()", () -> x.fault(), () -> o.fault());
        same("told(10)", () -> x.told(10), () -> o.told(10));
        jars = o.told(0);
        stones = o.told(1);
        sieves = o.told(2);
        // what a text that is too long has left on the TAPE may stay for the next one
        return 3;
    }

    private String blank() {
        return BLANKS[random.nextInt(BLANKS.length)];
    }

    private String number(int below) {
        int number = random.nextInt(60) == 0 ? below + random.nextInt(2) : random.nextInt(Math.max(1, below));
        String zeros = random.nextInt(30) == 0 ? "000000000000" : random.nextInt(80) == 0 ? "90000000000" : "";
        return " " + blank() + zeros + number;
    }

    private String millText() {
        StringBuilder text = new StringBuilder();
        int many = random.nextInt(30) == 0 ? 61 : 4 + random.nextInt(11);
        int like = random.nextInt(4);
        for (int i = 0; i < many; i++) {
            int kind = many == 61 ? 3 : random.nextInt(7);
            text.append(blank());
            if (kind < 3) {
                int top = random.nextInt(3) == 0 ? 20 : 1000;
                text.append("jar");
                for (int g = 0; g < 4; g++) {
                    text.append(random.nextInt(4) == 0 || like == 3 && random.nextInt(2) == 0 ? " 0" : number(top));
                }
            } else if (kind < 4 && many < 61) {
                text.append("stone").append(number(11)).append(number(11)).append(number(11));
            } else if (kind < 6 && many < 61) {
                text.append("sieve").append(number(3));
            } else {
                text.append("dust").append(number(51));
            }
            text.append(blank()).append(';');
        }
        return text.append(blank()).toString();
    }

    private String lawText() {
        return blank() + sum(random.nextInt(5)) + blank();
    }

    private String sum(int depth) {
        StringBuilder text = new StringBuilder(product(depth));
        for (int i = random.nextInt(3); i > 0; i--) {
            text.append(blank()).append(random.nextInt(3) > 0 ? '+' : '-').append(product(depth));
        }
        return text.toString();
    }

    private String product(int depth) {
        StringBuilder text = new StringBuilder(unit(depth));
        for (int i = random.nextInt(3); i > 0; i--) {
            text.append(blank()).append("*/%".charAt(random.nextInt(3))).append(unit(depth));
        }
        return text.toString();
    }

    private String unit(int depth) {
        String[] names = {"fine", "mid", "coarse", "husk", "all", "age", "day", "jar"};
        int kind = random.nextInt(depth > 0 ? 9 : 5);
        if (kind < 2) {
            return number(random.nextInt(2) == 0 ? 10 : 1000);
        }
        if (kind < 5) {
            return blank() + names[random.nextInt(8)];
        }
        int deeper = random.nextInt(10) == 0 ? 7 : depth - 1;
        if (deeper == 7) {
            int many = 5 + random.nextInt(3);
            return "(".repeat(many) + sum(0) + ")".repeat(many);
        }
        if (kind < 7) {
            return blank() + "(" + sum(deeper) + blank() + ")";
        }
        return blank() + (kind == 7 ? "least" : "most") + blank() + "[" + sum(deeper) + "," + sum(deeper) + blank() + "]";
    }

    private String workText() {
        StringBuilder text = new StringBuilder();
        if (random.nextInt(8) == 0) {
            return "again 40[again 5[day;];];";
        }
        for (int i = random.nextInt(9); i > 0; i--) {
            text.append(step(random.nextInt(3)));
        }
        return text.append(blank()).toString();
    }

    private String step(int depth) {
        int kind = random.nextInt(depth > 0 ? 10 : 8);
        String step;
        switch (kind) {
            case 0: step = "grind" + number(stones) + number(jars); break;
            case 1: step = "sift" + number(sieves) + number(jars) + number(jars) + number(jars); break;
            case 2: step = "pour" + number(jars) + number(jars); break;
            case 3: step = "scoop" + number(jars) + number(jars) + number(1000); break;
            case 4: step = "tear" + number(sieves); break;
            case 5: step = "sell" + number(jars); break;
            case 6: case 7: step = "day"; break;
            default: step = again(depth); break;
        }
        return blank() + step + blank() + ";";
    }

    private String again(int depth) {
        if (random.nextInt(8) == 0) {
            int many = 5 + random.nextInt(3);
            return "again 2[".repeat(many) + "];".repeat(many - 1) + "]";
        }
        StringBuilder text = new StringBuilder("again" + number(random.nextInt(3) == 0 ? 41 : 5) + blank() + "[");
        for (int i = random.nextInt(4); i > 0; i--) {
            text.append(step(depth - 1));
        }
        return text.append(blank()).append("]").toString();
    }

    private String stackText() {
        StringBuilder text = new StringBuilder();
        for (int i = random.nextInt(10); i > 0; i--) {
            text.append(number(sieves)).append(blank()).append(';');
        }
        return text.toString();
    }

    /** Mostly true of some SIEVE and JAR, so that some pairs are left. */
    private String bookText() {
        StringBuilder text = new StringBuilder();
        int sieve = random.nextInt(Math.max(1, sieves));
        int jar = random.nextInt(Math.max(1, jars));
        for (int grain = 0; grain < 4; grain++) {
            if (random.nextInt(3) == 0) {
                boolean real = sieves > 0 && jars > 0 && random.nextInt(5) > 0;
                int g = random.nextInt(25) == 0 ? random.nextInt(5) : grain;
                text.append(' ').append(g);
                text.append(real ? " " + o.falls(sieve, jar, grain) : number(10000)).append(';');
            }
        }
        return text.toString();
    }

    // ---- questions ----

    private int thing(int many) {
        return random.nextInt(25) == 0 ? (random.nextBoolean() ? many : -1) : random.nextInt(Math.max(1, many));
    }

    /** From 0 to most, at times just beside. */
    private int upTo(int most) {
        int odd = random.nextInt(60);
        return odd == 0 ? -1 : odd == 1 ? most + 1 : odd == 2 ? most : odd == 3 ? 0 : random.nextInt(most + 1);
    }

    private int question() {
        int j = thing(jars);
        int k = thing(jars);
        int st = thing(stones);
        int si = thing(sieves);
        int bits = random.nextInt(30) == 0 ? random.nextInt(200) - 70 : random.nextInt(1 << jars);
        int what = upTo(1);
        int n = random.nextInt(3) == 0 ? upTo(99999) : upTo(5000);
        int seed = random.nextInt();
        switch (random.nextInt(39)) {
            case 0: { int w = upTo(12); same("told(" + w + ")", () -> x.told(w), () -> o.told(w)); break; }
            case 1: { int w = upTo(6); same("jar(" + j + "," + w + ")", () -> x.jar(j, w), () -> o.jar(j, w)); break; }
            case 2: { int w = upTo(2); same("stone(" + st + "," + w + ")", () -> x.stone(st, w), () -> o.stone(st, w)); break; }
            case 3: same("sieve(" + si + "," + what + ")", () -> x.sieve(si, what), () -> o.sieve(si, what)); break;
            case 4: same("sneeze(" + j + ")", () -> x.sneeze(j), () -> o.sneeze(j)); break;
            case 5: would(); break;
            case 6: { int w = upTo(4); same("ground(" + st + "," + j + "," + w + ")", () -> x.ground(st, j, w), () -> o.ground(st, j, w)); break; }
            case 7: { int w = upTo(4); same("falls(" + si + "," + j + "," + w + ")", () -> x.falls(si, j, w), () -> o.falls(si, j, w)); break; }
            case 8: { int f = upTo(1000); same("milled(" + j + "," + st + "," + f + ")", () -> x.milled(j, st, f), () -> o.milled(j, st, f)); break; }
            case 9: { int w = upTo(5); same("stays(" + j + "," + w + ")", () -> x.stays(j, w), () -> o.stays(j, w)); break; }
            case 10: same("halves(" + bits + "," + what + ")", () -> x.halves(bits, what), () -> o.halves(bits, what)); break;
            case 11: { int w = upTo(2); same("box(" + bits + "," + n + "," + w + ")", () -> x.box(bits, n, w), () -> o.box(bits, n, w)); break; }
            case 12: same("fits(" + what + ")", () -> x.fits(what), () -> o.fits(what)); break;
            case 13: same("look(" + what + ")", () -> x.look(what), () -> o.look(what)); break;
            case 14: { int a = upTo(12); int b = upTo(13); int q = upTo(16);
                same("fit(" + a + "," + b + "," + q + "," + what + ")", () -> x.fit(a, b, q, what), () -> o.fit(a, b, q, what)); break; }
            case 15: { int a = upTo(99); int b = upTo(99); int w = upTo(2);
                same("shops(" + a + "," + b + "," + w + ")", () -> x.shops(a, b, w), () -> o.shops(a, b, w)); break; }
            case 16: same("shelf(" + j + "," + bits + "," + n + ")", () -> x.shelf(j, bits, n), () -> o.shelf(j, bits, n)); break;
            case 17: same("sharpest(" + what + ")", () -> x.sharpest(what), () -> o.sharpest(what)); break;
            case 18: same("ripe()", () -> x.ripe(), () -> o.ripe()); break;
            case 19: same("blend(" + j + "," + k + ")", () -> x.blend(j, k), () -> o.blend(j, k)); break;
            case 20: same("even()", () -> x.even(), () -> o.even()); break;
            case 21: same("ripens(" + j + ")", () -> x.ripens(j), () -> o.ripens(j)); break;
            case 22: same("space(" + j + ")", () -> x.space(j), () -> o.space(j)); break;
            case 23: same("oldest(" + what + ")", () -> x.oldest(what), () -> o.oldest(what)); break;
            case 24: same("passes(" + si + ")", () -> x.passes(si), () -> o.passes(si)); break;
            case 25: { int g = upTo(3); same("amount(" + g + "," + what + ")", () -> x.amount(g, what), () -> o.amount(g, what)); break; }
            case 26: same("worth()", () -> x.worth(), () -> o.worth()); break;
            case 27: same("like(" + j + ")", () -> x.like(j), () -> o.like(j)); break;
            case 28: same("through(" + si + "," + what + ")", () -> x.through(si, what), () -> o.through(si, what)); break;
            case 29: { int q = upTo(16); int d = upTo(48); int w = upTo(3);
                same("year(" + seed + "," + q + "," + d + "," + w + ")", () -> x.year(seed, q, d, w), () -> o.year(seed, q, d, w)); break; }
            case 30: { int m = upTo(10); int q = upTo(16); int d = upTo(48); int w = upTo(2);
                same("span(" + seed + "," + m + "," + q + "," + d + "," + w + "," + j + ")",
                    () -> x.span(seed, m, q, d, w, j), () -> o.span(seed, m, q, d, w, j)); break; }
            case 31: case 32: same("undo()", () -> x.undo(), () -> o.undo()); break;
            case 33: case 34: same("image()", () -> x.image(), () -> o.image()); break;
            case 35: same("restore()", () -> x.restore(), () -> o.restore()); break;
            case 36: { int w = upTo(2); same("status(" + w + ")", () -> x.status(w), () -> o.status(w)); break; }
            case 37: { int w = upTo(3); same("count(" + w + ")", () -> x.count(w), () -> o.count(w)); break; }
            default: same("fault()", () -> x.fault(), () -> o.fault()); break;
        }
        return 1;
    }

    private void would() {
        int most = random.nextInt(4) == 0 ? 9999 : 99;
        int[] g = {upTo(most), upTo(most), upTo(most), upTo(most), upTo(400), upTo(400), upTo(5)};
        same("would", () -> x.would(g[0], g[1], g[2], g[3], g[4], g[5], g[6]),
            () -> o.would(g[0], g[1], g[2], g[3], g[4], g[5], g[6]));
    }
}
