/** What is asked (==== 3): the document's words that name a boundary case, each with a test of its own. */
public final class AskEdgesTest {
    private static final String MILL =
        "jar 100 40 20 10;jar 0 0 0 0;jar 5 0 0 95;jar 0 0 50 0;stone 5 10 2;stone 0 0 0;sieve 0;sieve 1;dust 10;";

    private AskEdgesTest() {
    }

    public static void main(String[] args) {
        nothingChanges();
        fineAndMilled();
        stack();
        halves();
        box();
        fitsAndLook();
        fitAndShops();
        shelf();
        yearsOfGrinding();
        yearsOfSifting();
        yearsOfSelling();
        Bench.end();
    }

    private static void due(String call, long got, long want) {
        Bench.due(call, got, want);
    }

    private static void nothingChanges() {
        Bench.edge("Asked, nothing stays changed.", () -> {
            SnuffMill x = Bench.of(MILL);
            Bench.stack(x, "1;0;");
            Bench.book(x, "0 100;");
            Bench.work(x, "day;tear 1;grind 0 0;pour 1 1;");
            x.image();
            String before = Bench.state(x);
            for (int what = 0; what < 2; what++) {
                x.halves(15, what);
                x.box(15, 500, what);
                x.fits(what);
                x.look(what);
                x.shops(9, 5, what);
                x.sharpest(what);
                x.oldest(what);
                x.amount(0, what);
                x.through(1, what);
                x.year(5, 16, 48, what);
                x.span(5, 10, 16, 48, what, 0);
            }
            for (int jar = 0; jar < 4; jar++) {
                x.ground(0, jar, 4);
                x.falls(1, jar, 4);
                x.milled(jar, 0, 1000);
                x.stays(jar, 1);
                x.shelf(jar, 15, 100);
                x.blend(0, jar);
                x.blend(jar, 2);
                x.ripens(jar);
                x.space(jar);
                x.like(jar);
            }
            x.would(1, 2, 3, 4, 5, 6, 5);
            x.ripe();
            x.even();
            x.worth();
            x.passes(1);
            x.fit(12, 6, 5, 0);
            x.status(0);
            x.count(1);
            due("fault()", x.fault(), -1);
            Bench.stateDue("nothing stays changed", x, before);
        });
    }

    private static void fineAndMilled() {
        Bench.edge("1,000 times its GRAIN 0 by all its GRAMS (cut); 0 of an empty one.", () -> {
            SnuffMill x = Bench.of("jar 0 0 0 0;jar 1 2 0 0;jar 999 0 0 0;jar 0 9 9 9;jar 998 0 0 1;jar 1 999 999 0;");
            int[] want = {0, 333, 1000, 0, 998, 0};
            for (int jar = 0; jar < 6; jar++) {
                due("FINE of " + jar, x.jar(jar, 6), want[jar]);
            }
        });
        Bench.edge("behind how many grindings (0 to 99) of the JAR by the STONE its FINE is n or more", () -> {
            String stones = "stone 1 1 1;stone 0 0 0;";
            String together = "pour 1 0;pour 2 0;pour 3 0;pour 4 0;";
            SnuffMill x = Bench.of("jar 0 0 0 999;".repeat(5) + stones + "dust 0;");
            Bench.work(x, together);
            due("98 are too few for 994", fineBehind(4995, 0, 98), 993);
            due("99 are enough", fineBehind(4995, 0, 99), 994);
            due("99", x.milled(0, 0, 994), 99);
            due("none at all", x.milled(0, 0, 0), 0);
            due("by another STONE", x.milled(0, 1, 1), -1);
            SnuffMill z = Bench.of("jar 0 0 0 999;".repeat(6) + stones + "dust 1;");
            Bench.work(z, together + "pour 5 0;");
            due("99 are too few for 990", fineBehind(5994, 1, 99), 989);
            due("100 would be enough", fineBehind(5994, 1, 100), 990);
            due("100 are too many", z.milled(0, 0, 990), -1);
            Bench.work(z, "grind 0 0;");
            due("one less", z.milled(0, 0, 990), 99);
            SnuffMill y = Bench.of("jar 50 50 0 0;stone 10 0 0;dust 50;");
            due("just n", y.milled(0, 0, 500), 0);
            due("one more", y.milled(0, 0, 501), 1);
            due("n 1,000", y.milled(0, 0, 1000), 1);
        });
        Bench.edge("NONE (so, too, if it is empty, whatever n)", () -> {
            SnuffMill x = Bench.of("jar 0 0 0 0;jar 0 0 0 1;stone 10 10 10;dust 50;");
            due("empty, n 0", x.milled(0, 0, 0), -1);
            due("empty, n 1,000", x.milled(0, 0, 1000), -1);
            due("one GRAM", x.milled(1, 0, 1000), 3);
            due("one GRAM, n 0", x.milled(1, 0, 0), 0);
        });
    }

    /** FINE of so many husks behind so many grindings by 1 1 1. */
    private static int fineBehind(int husks, int dust, int times) {
        int[] g = {0, 0, 0, husks};
        for (int i = 0; i < times; i++) {
            int[] down = {0, g[1] / 10, g[2] / 10, g[3] / 10};
            for (int grain = 1; grain < 4; grain++) {
                g[grain] -= down[grain];
                g[grain - 1] += down[grain];
            }
            g[0] -= g[0] * dust / 100;
        }
        return 1000 * g[0] / (g[0] + g[1] + g[2] + g[3]);
    }

    private static void stack() {
        Bench.edge("what is in it falls through the SIEVES, from the highest one on, each as by sift: what stays on each, what falls through all.", () -> {
            SnuffMill x = Bench.of("jar 11 13 15 17;jar 0 0 0 0;sieve 0;sieve 1;sieve 2;");
            staysDue(x, "", 56);
            staysDue(x, "0;", 45, 11);
            staysDue(x, "2;1;0;", 17, 15, 13, 11);
            staysDue(x, "0;1;2;", 45, 0, 0, 11);
            staysDue(x, "1;1;", 32, 0, 24);
            Bench.work(x, "tear 0;tear 2;");
            // torn 2: 8 of 17 husks fall
            staysDue(x, "2;", 9, 47);
            // of 8 husks 4 fall, of 4 2, of 2 1, of 1 none
            staysDue(x, "2;2;2;2;2;2;", 9, 4, 2, 1, 1, 0, 39);
            // torn 0: 6 of 13 fall, then 3
            staysDue(x, "0;0;1;", 39, 3, 0, 14);
            staysDue(x, "2;2;2;2;2;2;2;2;", 9, 4, 2, 1, 1, 0, 0, 0, 39);
            due("an empty JAR", x.stays(1, 0), 0);
            due("an empty JAR", x.stays(1, 8), 0);
        });
    }

    private static void staysDue(SnuffMill x, String stack, int... want) {
        due("stack '" + stack + "'", Bench.stack(x, stack), want.length - 1);
        for (int k = 0; k < want.length; k++) {
            due("stack '" + stack + "' stays(0, " + k + ")", x.stays(0, k), want[k]);
        }
        due("stack '" + stack + "' beyond", x.stays(0, want.length), -1);
    }

    private static void halvesDue(SnuffMill x, int jars, int apart, int lot) {
        due("halves(" + jars + ", 0)", x.halves(jars, 0), apart);
        due("halves(" + jars + ", 1)", x.halves(jars, 1), lot);
    }

    private static void halves() {
        Bench.edge("parted into two lots by GRAMS so that one has as little more than the other one as can be: by how much", () -> {
            SnuffMill x = Bench.of("jar 1 1 1 4;jar 0 0 4 0;jar 2 0 0 0;jar 0 0 0 3;jar 0 0 0 0;");
            // 7 4 2 3 0
            halvesDue(x, 15, 2, 1);
            halvesDue(x, 11, 0, 1);
            halvesDue(x, 7, 1, 1);
            halvesDue(x, 14, 1, 2);
            halvesDue(x, 3, 3, 1);
            halvesDue(x, 1, 7, 1);
            halvesDue(x, 8, 3, 8);
        });
        Bench.edge("the lot with the first one of the told ones: of alike ones the least bits.", () -> {
            SnuffMill x = Bench.of("jar 2 0 0 0;jar 3 0 0 0;jar 3 0 0 0;jar 2 0 0 0;jar 0 0 0 0;jar 9 0 0 0;");
            // 2 and 3 against 3 and 2: bits 3 or 5
            halvesDue(x, 15, 0, 3);
            halvesDue(x, 31, 0, 3);
            // 3 against 3 and 2, or 3 and 2 against 3: bits 2 or 10
            halvesDue(x, 14, 2, 2);
            halvesDue(x, 6, 0, 2);
            // an empty one first: alone with none or with others
            halvesDue(x, 48, 9, 16);
            halvesDue(x, 16, 0, 16);
            // 2 2 and an empty one: 1 is less than 17
            halvesDue(x, 25, 0, 1);
        });
    }

    private static void boxDue(SnuffMill x, int jars, int n, int sneeze, int grams, int which) {
        String call = "box(" + jars + ", " + n + ", ";
        due(call + "0)", x.box(jars, n, 0), sneeze);
        due(call + "1)", x.box(jars, n, 1), grams);
        due(call + "2)", x.box(jars, n, 2), which);
    }

    private static void box() {
        Bench.edge("those of these that are not empty and have n GRAMS or less together with most SNEEZE together", () -> {
            SnuffMill x = Bench.of("jar 10 0 0 0;jar 0 6 0 0;jar 0 0 5 0;jar 0 0 0 0;jar 0 0 0 1;");
            Bench.law(x, "60-20*jar+50*(jar/4)");
            // 60 of 10, 40 of 6, 20 of 5, (0, empty), 30 of 1
            boxDue(x, 31, 99999, 150, 22, 23);
            boxDue(x, 31, 22, 150, 22, 23);
            boxDue(x, 31, 21, 130, 17, 19);
            boxDue(x, 31, 17, 130, 17, 19);
            boxDue(x, 31, 16, 110, 16, 21);
            boxDue(x, 31, 15, 90, 11, 17);
            boxDue(x, 31, 11, 90, 11, 17);
            boxDue(x, 31, 10, 70, 7, 18);
            boxDue(x, 31, 1, 30, 1, 16);
            boxDue(x, 31, 0, 0, 0, 0);
            boxDue(x, 15, 5, 20, 5, 4);
            boxDue(x, 15, 4, 0, 0, 0);
            boxDue(x, 0, 99999, 0, 0, 0);
            Bench.law(x, "50");
            boxDue(x, 8, 99999, 0, 0, 0);
            boxDue(x, 24, 99999, 50, 1, 16);
        });
        Bench.edge("of alike ones of least GRAMS; of alike ones the least bits.", () -> {
            SnuffMill x = Bench.of("jar 9 0 0 0;jar 4 0 0 0;jar 4 0 0 0;jar 5 0 0 0;jar 0 0 0 0;");
            Bench.law(x, "10");
            boxDue(x, 31, 9, 20, 8, 6);
            boxDue(x, 31, 8, 20, 8, 6);
            boxDue(x, 31, 7, 10, 4, 2);
            boxDue(x, 25, 9, 10, 5, 8);
            Bench.law(x, "all");
            boxDue(x, 31, 9, 9, 9, 1);
            boxDue(x, 30, 9, 9, 9, 10);
            Bench.law(x, "0");
            boxDue(x, 31, 99, 0, 0, 0);
        });
    }

    private static void fitsDue(SnuffMill x, String book, int many, int first, int grain, int left) {
        Bench.book(x, book);
        due("book '" + book + "' fits(0)", x.fits(0), many);
        due("book '" + book + "' fits(1)", x.fits(1), first);
        due("book '" + book + "' look(0)", x.look(0), grain);
        due("book '" + book + "' look(1)", x.look(1), left);
    }

    private static void fitsAndLook() {
        Bench.edge("by which, had that one been sifted by it now, all lines are right: how many, the first (10 times the SIEVE, and the JAR)", () -> {
            SnuffMill x = Bench.of("jar 0 0 0 0;jar 5 4 3 2;jar 5 4 0 2;jar 6 0 3 0;sieve 0;sieve 1;sieve 2;");
            Bench.work(x, "tear 0;");
            // torn 0: JAR 1: 5 2 0 0, 2: 5 2 0 0, 3: 6 0 0 0; 1: 5 4 0 0, 5 4 0 0, 6 0 0 0; 2: 5 4 3 0, 5 4 0 0, 6 0 3 0
            due("no lines: all pairs", x.fits(0), 9);
            due("the first", x.fits(1), 1);
            Bench.book(x, "1 4;");
            due("1 4", x.fits(0), 4);
            due("1 4", x.fits(1), 11);
            Bench.book(x, "1 4;2 3;");
            due("both lines", x.fits(0), 1);
            due("both lines", x.fits(1), 21);
            Bench.book(x, "1 2;");
            due("half", x.fits(0), 2);
            Bench.book(x, "0 6;2 3;1 0;3 0;");
            due("all four lines", x.fits(1), 23);
            Bench.book(x, "0 0;1 0;2 0;3 0;");
            due("an empty one is none", x.fits(0), 0);
            due("NONE", x.fits(1), -1);
            Bench.book(x, "1 2;");
            Bench.work(x, "tear 0;");
            due("as the SIEVE is now", x.fits(0), 0);
            Bench.book(x, "0 6;");
            due("3 by each SIEVE", x.fits(0), 3);
            Bench.law(x, "50");
            Bench.work(x, "sell 3;");
            due("as the JAR is now", x.fits(0), 0);
            SnuffMill y = Bench.of("jar 1 1 1 1;");
            due("no SIEVES", y.fits(0), 0);
            SnuffMill z = Bench.of("jar 1 0 0 0;".repeat(6) + "sieve 0;".repeat(4));
            due("all of the most there can be", z.fits(0), 24);
            Bench.law(z, "50");
            Bench.work(z, "sell 0;sell 1;sell 2;sell 3;sell 4;");
            due("the last JAR, by the first SIEVE", z.fits(1), 5);
        });
        Bench.edge("the GRAIN in no line by which, however much of it fell, fewest such pairs are left at the worst, of these the first.", () -> {
            SnuffMill x = Bench.of("jar 5 4 3 2;jar 5 4 0 2;jar 6 0 3 0;jar 0 0 0 0;sieve 0;sieve 1;sieve 2;");
            // GRAIN 0: 5 six times; 1: 0 five times; 2: 0 seven times; 3: 0 nine times
            fitsDue(x, "", 9, 0, 1, 5);
            fitsDue(x, "1 0;", 5, 0, 0, 3);
            fitsDue(x, "1 0;0 5;", 2, 0, 2, 2);
            fitsDue(x, "1 4;", 4, 10, 2, 3);
            fitsDue(x, "1 4;2 0;", 3, 10, 0, 3);
            fitsDue(x, "1 4;2 3;", 1, 20, 0, 1);
            fitsDue(x, "0 1;", 0, -1, 1, 0);
            fitsDue(x, "0 1;1 1;2 1;", 0, -1, 3, 0);
            fitsDue(x, "0 5;1 4;2 3;3 0;", 1, 20, -1, -1);
            fitsDue(x, "0 1;1 1;2 1;3 1;", 0, -1, -1, -1);
            SnuffMill y = new SnuffMill();
            fitsDue(y, "", 0, -1, 0, 0);
        });
    }

    private static void fitDue(SnuffMill x, int n, int k, int q, long above, long below) {
        due("fit(" + n + ", " + k + ", " + q + ", 0)", x.fit(n, k, q, 0), above);
        due("fit(" + n + ", " + k + ", " + q + ", 1)", x.fit(n, k, q, 1), below);
    }

    private static void shopsDue(SnuffMill x, int v, int w, int many, int first, int together) {
        due("shops(" + v + ", " + w + ", 0)", x.shops(v, w, 0), many);
        due("shops(" + v + ", " + w + ", 1)", x.shops(v, w, 1), first);
        due("shops(" + v + ", " + w + ", 2)", x.shops(v, w, 2), together);
    }

    private static void fitAndShops() {
        Bench.edge("each of n pinches makes one sneeze by q of 16, each by itself: how likely k or more do.", () -> {
            SnuffMill x = new SnuffMill();
            fitDue(x, 0, 0, 0, 1, 1);
            fitDue(x, 0, 0, 16, 1, 1);
            fitDue(x, 12, 0, 7, 1, 1);
            fitDue(x, 12, 12, 16, 1, 1);
            fitDue(x, 12, 1, 0, 0, 1);
            fitDue(x, 12, 12, 0, 0, 1);
            fitDue(x, 1, 1, 4, 1, 4);
            fitDue(x, 3, 3, 4, 1, 64);
            fitDue(x, 3, 1, 4, 37, 64);
            fitDue(x, 12, 12, 15, 129746337890625L, 1L << 48);
            fitDue(x, 12, 11, 8, 13, 4096);
        });
        Bench.edge("both by day: each has v by 2 (cut); both by night: each has w by 2 (cut); else who sells by day has v, the other one w", () -> {
            SnuffMill x = new SnuffMill();
            // both by day: 4 each; by night it would be 3
            shopsDue(x, 9, 3, 1, 0, 8);
            shopsDue(x, 8, 3, 1, 0, 8);
            shopsDue(x, 3, 9, 1, 11, 8);
            shopsDue(x, 99, 99, 2, 1, 198);
            shopsDue(x, 9, 5, 2, 1, 14);
            shopsDue(x, 5, 9, 2, 1, 14);
        });
        Bench.edge("RESTS: neither would have more by the other thing.", () -> {
            SnuffMill x = new SnuffMill();
            // as much is not more: 4 by day with the other, 4 by night alone
            shopsDue(x, 9, 4, 3, 0, 8);
            shopsDue(x, 8, 4, 3, 0, 8);
            shopsDue(x, 4, 9, 3, 1, 13);
            shopsDue(x, 0, 0, 4, 0, 0);
            shopsDue(x, 1, 0, 3, 0, 0);
            shopsDue(x, 0, 1, 3, 1, 1);
            shopsDue(x, 2, 0, 1, 0, 2);
            shopsDue(x, 1, 1, 2, 1, 2);
        });
    }

    private static void shelf() {
        Bench.edge("levelled: no more than that each, no more than a bound, the greatest by which no more than n are given (all, if they are no more).", () -> {
            SnuffMill x = Bench.of("jar 5 0 0 0;jar 0 20 0 0;jar 0 0 50 0;jar 0 0 0 0;");
            shelfDue(x, 7, 75, 5, 20, 50);
            shelfDue(x, 7, 76, 5, 20, 50);
            shelfDue(x, 7, 99999, 5, 20, 50);
            shelfDue(x, 7, 74, 5, 20, 49);
            shelfDue(x, 7, 46, 5, 20, 21);
            shelfDue(x, 7, 45, 5, 20, 20);
            // 44: by 20 it would be 45
            shelfDue(x, 7, 44, 5, 19, 19);
            shelfDue(x, 7, 43, 5, 19, 19);
            shelfDue(x, 7, 15, 5, 5, 5);
            shelfDue(x, 7, 14, 4, 4, 4);
            shelfDue(x, 7, 3, 1, 1, 1);
            shelfDue(x, 7, 2, 0, 0, 0);
            shelfDue(x, 7, 0, 0, 0, 0);
            shelfDue(x, 15, 3, 1, 1, 1);
            shelfDue(x, 6, 20, 0, 10, 10);
            shelfDue(x, 4, 49, 0, 0, 49);
            shelfDue(x, 0, 99999, 0, 0, 0);
            due("an empty one gets none", x.shelf(3, 15, 99999), 0);
            SnuffMill y = Bench.of("jar 999 999 999 999;jar 999 999 999 999;jar 999 999 9 0;jar 1 0 0 0;");
            Bench.work(y, "pour 1 0;pour 2 0;");
            due("all of the fullest", y.shelf(0, 9, 10000), 9999);
            due("one less", y.shelf(0, 9, 9999), 9998);
            due("the other", y.shelf(3, 9, 9999), 1);
            due("one is not enough", y.shelf(3, 9, 1), 0);
        });
    }

    private static void shelfDue(SnuffMill x, int jars, int n, int... want) {
        for (int jar = 0; jar < want.length; jar++) {
            due("shelf(" + jar + ", " + jars + ", " + n + ")", x.shelf(jar, jars, n), want[jar]);
        }
    }

    /** DRAWS by a SEED, told apart from the program's way: in 64 bits, none wrapped. */
    private static int[] draws(int seed, int many) {
        int[] drawn = new int[many];
        long state = seed & 0xffffffffL;
        for (int i = 0; i < many; i++) {
            state = (state * 1103515245L + 12345L) & 0xffffffffL;
            drawn[i] = (int) (state >> 16) & 0x7fff;
        }
        return drawn;
    }

    private static void yearsOfGrinding() {
        Bench.edge("are there JARS and STONES: DRAW by how many STONES, by how many JARS: grind", () -> {
            // 2, 4, 6 or 8 of 10 come to GRAIN 0, half of which is LOST
            SnuffMill x = Bench.of("jar 0 900 0 0;jar 0 800 0 0;jar 0 0 0 0;stone 2 0 0;stone 4 0 0;stone 6 0 0;stone 8 0 0;dust 50;");
            int[] grams = {900, 800, 0};
            for (int seed = -8; seed < 8; seed++) {
                int[] d = draws(seed, 2);
                due("LOST by SEED " + seed, x.year(seed, 0, 1, 2), grams[d[1] % 3] * (d[0] % 4 + 1) / 5 / 2);
            }
            due("no JARS", Bench.of("stone 9 9 9;sieve 0;").year(1, 16, 48, 2), 0);
        });
        Bench.edge("DRAW: the SEED (32 bits) becomes itself times 1,103,515,245, and 12,345 (it wraps); its bits 16 to 30, what is left of them.", () -> {
            SnuffMill x = Bench.of("jar 10 0 0 0;".repeat(6));
            Bench.law(x, "50");
            int[] seeds = {0, 1, -1, Integer.MAX_VALUE, Integer.MIN_VALUE, 1 << 16, 1 << 31, 12345, -1103515245, 77777};
            for (int seed : seeds) {
                for (int days = 1; days <= 6; days++) {
                    int[] d = draws(seed, days);
                    int empty = 0;
                    for (int i = 0; i < days; i++) {
                        empty |= 1 << d[i] % 6;
                    }
                    due("year(" + seed + ", 0, " + days + ", 3)", x.year(seed, 0, days, 3), empty);
                }
            }
        });
    }

    private static void yearsOfSifting() {
        Bench.edge("are there three JARS or more and SIEVES", () -> {
            for (int jars = 1; jars <= 4; jars++) {
                for (int sieves = 0; sieves < 2; sieves++) {
                    SnuffMill x = Bench.of("jar 10 0 0 0;".repeat(jars) + "sieve 0;".repeat(sieves));
                    Bench.law(x, "50");
                    boolean sifts = jars >= 3 && sieves > 0;
                    for (int seed = 1; seed <= 6; seed++) {
                        int[] d = draws(seed, 4);
                        due("sold by SEED " + seed + ", JARS " + jars + ", SIEVES " + sieves,
                            x.year(seed, 0, 1, 3), 1 << (sifts ? d[3] : d[0]) % jars);
                    }
                }
            }
        });
        Bench.edge("DRAW by how many SIEVES, S, by how many JARS, J: DRAW by 16: is it below Q: sift S J, K, L", () -> {
            for (int seed = 1; seed <= 12; seed++) {
                int[] d = draws(seed, 3);
                int sieve = d[0] % 2;
                int jar = d[1] % 3;
                // mids alone: they fall through SIEVE 1, and stay on SIEVE 0
                StringBuilder mill = new StringBuilder();
                for (int i = 0; i < 3; i++) {
                    mill.append(i == jar ? "jar 0 9 0 0;" : "jar 0 0 0 0;");
                }
                SnuffMill x = Bench.of(mill + "sieve 0;sieve 1;");
                Bench.law(x, "0");
                int to = (jar + (sieve == 1 ? 1 : 2)) % 3;
                due("SEED " + seed + ", not below", x.year(seed, d[2] % 16, 1, 3), 7 - (1 << jar));
                due("SEED " + seed + ", below", x.year(seed, d[2] % 16 + 1, 1, 3), 7 - (1 << to));
                due("SEED " + seed + ", Q 16", x.year(seed, 16, 1, 3), 7 - (1 << to));
                due("SEED " + seed + ", Q 0", x.year(seed, 0, 1, 3), 7 - (1 << jar));
            }
        });
        Bench.edge("K being the JAR behind J, L the one behind K (behind the last one comes the first)", () -> {
            int seen = 0;
            for (int seed = 1; seed <= 40; seed++) {
                int jar = draws(seed, 2)[1] % 6;
                seen |= 1 << jar;
                StringBuilder mill = new StringBuilder();
                for (int i = 0; i < 6; i++) {
                    mill.append(i == jar ? "jar 5 0 0 5;" : "jar 0 0 0 0;");
                }
                SnuffMill x = Bench.of(mill + "sieve 1;");
                Bench.law(x, "0");
                due("SEED " + seed, x.year(seed, 16, 1, 3), 63 - (1 << (jar + 1) % 6) - (1 << (jar + 2) % 6));
            }
            due("each JAR was drawn", seen, 63);
        });
    }

    private static void yearsOfSelling() {
        Bench.edge("are there JARS: DRAW by how many JARS: sell (each done, if it can be)", () -> {
            SnuffMill x = Bench.of("jar 40 0 0 0;jar 0 0 0 50;stone 1 1 1;dust 0;");
            for (int seed = 1; seed <= 8; seed++) {
                int sold = draws(seed, 3)[2] % 2;
                due("SEED " + seed, x.year(seed, 0, 1, 0), sold == 0 ? 4 : 0);
                due("SEED " + seed, x.year(seed, 0, 1, 3), sold == 0 ? 1 : 0);
            }
            SnuffMill y = Bench.of("stone 1 1 1;sieve 0;");
            for (int what = 0; what < 4; what++) {
                due("no JARS: year(1, 16, 48, " + what + ")", y.year(1, 16, 48, what), 0);
            }
            SnuffMill z = Bench.of("jar 0 0 0 0;jar 0 0 0 0;jar 0 0 0 0;stone 9 9 9;sieve 0;");
            due("empty ones alone: nothing can be done", z.year(1, 16, 48, 3), 7);
            due("empty ones alone: nothing can be done", z.year(1, 16, 48, 0), 0);
        });
        Bench.edge("behind these, with any or none, day (beyond 400, too)", () -> {
            SnuffMill x = Bench.of("jar 20 0 0 0;");
            Bench.law(x, "50*(day/2)");
            due("the first DAY is now", x.year(1, 0, 2, 0), 0);
            due("the third DAY", x.year(1, 0, 3, 0), 2);
            Bench.law(x, "50*(age/2)");
            due("so old on the third DAY", x.year(1, 0, 2, 0), 0);
            due("so old on the third DAY", x.year(1, 0, 3, 0), 2);
            Bench.work(x, "again 39[day;day;day;day;day;];");
            Bench.work(x, "again 39[day;day;day;day;day;];");
            Bench.work(x, "again 10[day;];");
            due("DAY", x.told(4), 400);
            Bench.law(x, "50*(day/401)");
            due("DAY 400", x.year(1, 0, 1, 0), 0);
            due("DAY 401", x.year(1, 0, 2, 0), 2);
            Bench.law(x, "50*(day/447)*(age/447)");
            due("DAY 446", x.year(1, 0, 47, 0), 0);
            due("DAY 447", x.year(1, 0, 48, 0), 2);
            due("it is DAY 400 still", x.told(4), 400);
        });
    }
}
