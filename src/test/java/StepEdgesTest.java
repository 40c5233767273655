/** The STEPS (==== 2): the document's words that name a boundary case, each with a test of its own. */
public final class StepEdgesTest {
    /** JAR 0 comes to just 9,999 GRAMS by both pours; JARS 3 and 4 have one GRAM each, JAR 5 none. */
    private static final String FULL =
        "jar 999 999 999 999;jar 999 999 999 999;jar 999 999 9 0;jar 1 0 0 0;jar 0 0 0 1;jar 0 0 0 0;sieve 0;";
    private static final String FILL = "pour 1 0;pour 2 0;";

    private StepEdgesTest() {
    }

    public static void main(String[] args) {
        atFirst();
        fullJars();
        ages();
        refusedSteps();
        begunSteps();
        grind();
        sift();
        pourAndScoop();
        tearSellDay();
        Bench.end();
    }

    private static void due(String call, long got, long want) {
        Bench.due(call, got, want);
    }

    /** WORK of STEPS that are all REFUSED, so many: nothing is changed by it but that a WORK is there. */
    private static void refused(SnuffMill x, String work, int many) {
        Bench.work(x, "");
        String before = Bench.state(x);
        x.undo();
        due("'" + work + "'", Bench.work(x, work), 0);
        due("'" + work + "' told(10)", x.told(10), many);
        x.image();
        x.restore(); // behind which told(10) is 0 again
        Bench.stateDue("'" + work + "' changes nothing", x, before);
    }

    private static void done(SnuffMill x, String work, int many) {
        due("'" + work + "'", Bench.work(x, work), many);
        due("'" + work + "' told(10)", x.told(10), 0);
    }

    private static void atFirst() {
        Bench.edge("It is DAY 0 at first, each JAR is 0 old, no SIEVE is torn, nothing is LOST or sold.", () -> {
            SnuffMill x = Bench.of("jar 60 9 9 9;jar 9 0 0 0;sieve 0;sieve 1;stone 9 9 9;");
            for (int round = 0; round < 2; round++) {
                due("DAY", x.told(4), 0);
                due("LOST", x.told(6), 0);
                due("MONEY", x.told(7), 0);
                due("torn", x.told(9), 0);
                due("age of 0", x.jar(0, 5), 0);
                due("age of 1", x.jar(1, 5), 0);
                due("work", Bench.work(x, "day;tear 0;tear 1;grind 0 0;sell 0;"), 5);
                Bench.mill(x, "jar 60 9 9 9;jar 9 0 0 0;sieve 0;sieve 1;stone 9 9 9;");
            }
        });
        Bench.edge("A JAR of 0 GRAMS is empty.", () -> {
            SnuffMill x = Bench.of("jar 0 0 0 0;jar 1 0 0 0;jar 0 1 0 0;jar 0 0 1 0;jar 0 0 0 1;jar 0 0 0 0;");
            due("told(8)", x.told(8), 33);
            Bench.work(x, "scoop 1 0 1;");
            due("told(8)", x.told(8), 34);
        });
    }

    private static void fullJars() {
        Bench.edge("No JAR may come to more than 9,999 GRAMS: what would do so is REFUSED.", () -> {
            SnuffMill x = Bench.of(FULL);
            done(x, FILL, 2);
            due("just 9,999", x.jar(0, 4), 9999);
            refused(x, "pour 3 0;", 1);
            refused(x, "scoop 3 0 1;", 1);
            refused(x, "sift 0 3 0 5;", 1);
            refused(x, "sift 0 4 5 0;", 1);
            // 0 GRAMS more are not more than 9,999
            done(x, "sift 0 3 5 0;", 1);
            done(x, "sift 0 4 0 3;", 1);
            due("still 9,999", x.jar(0, 4), 9999);
            done(x, "scoop 0 1 1;pour 5 0;", 2);
            due("9,999 again", x.jar(0, 4), 9999);
            done(x, "scoop 0 5 2;scoop 5 0 2;", 2);
            due("9,999 again", x.jar(0, 4), 9999);
            done(x, "scoop 0 5 2;scoop 1 5 1;", 2);
            due("9,997", x.jar(0, 4), 9997);
            due("3 more would be one too many", x.jar(5, 4), 3);
            refused(x, "scoop 5 0 3;", 1);
            refused(x, "pour 5 0;", 1);
            done(x, "scoop 5 0 2;", 1);
            due("9,999 once more", x.jar(0, 4), 9999);
        });
        Bench.edge("No JAR may come to more than 9,999 GRAMS", () -> {
            SnuffMill x = Bench.of(FULL);
            Bench.work(x, FILL + "scoop 0 1 5;pour 3 1;pour 4 1;scoop 1 3 4;");
            // JAR 0 has 9,994; JAR 3 has 4, JAR 1 has 3: 2 of GRAIN 0 and one husk
            due("JAR 1", x.jar(1, 4), 3);
            due("JAR 1, GRAIN 3", x.jar(1, 3), 1);
            done(x, "scoop 3 0 3;", 1);
            due("9,997", x.jar(0, 4), 9997);
            done(x, "sift 0 1 0 2;", 1);
            due("by what falls alone: 9,999", x.jar(0, 4), 9999);
            SnuffMill y = Bench.of("jar 999 999 999 999;jar 999 999 999 999;jar 999 999 8 0;jar 1 0 0 1;jar 0 0 0 0;sieve 0;");
            Bench.work(y, FILL);
            done(y, "sift 0 3 4 0;", 1);
            due("by what stays alone: 9,999", y.jar(0, 4), 9999);
            due("the other one", y.jar(4, 4), 1);
        });
    }

    private static void ages() {
        Bench.edge("A JAR into which a GRAM or more is put is as old as the older one of both, an empty one being 0 old", () -> {
            // a JAR that is not empty is always as old as the DAY, so the older one is the one that is not empty
            SnuffMill x = Bench.of("jar 9 9 0 0;jar 50 0 0 0;jar 0 0 0 0;jar 0 0 0 0;sieve 0;");
            Bench.work(x, "day;day;sell 1;day;scoop 0 1 1;");
            Bench.jarDue("a GRAM into an empty one", x, 1, 1, 0, 0, 0, 3);
            Bench.work(x, "day;scoop 0 1 1;");
            Bench.jarDue("both alike", x, 1, 2, 0, 0, 0, 4);
            Bench.work(x, "pour 1 2;");
            Bench.jarDue("poured into an empty one", x, 2, 2, 0, 0, 0, 4);
            Bench.work(x, "day;sift 0 0 1 3;");
            Bench.jarDue("what falls brings its age", x, 1, 7, 0, 0, 0, 5);
            Bench.jarDue("what stays brings its age", x, 3, 0, 9, 0, 0, 5);
            Bench.work(x, "sift 0 3 0 1;");
            Bench.jarDue("into one that has some", x, 1, 7, 9, 0, 0, 5);
            Bench.work(x, "again 9[day;];pour 2 1;");
            Bench.jarDue("both alike", x, 1, 9, 9, 0, 0, 14);
        });
        Bench.edge("(one that gets 0 GRAMS stays as it is)", () -> {
            SnuffMill x = Bench.of("jar 0 7 0 0;jar 0 0 0 0;jar 0 0 0 0;sieve 0;sieve 1;");
            Bench.work(x, "day;sift 0 0 1 2;");
            Bench.jarDue("nothing fell", x, 1, 0, 0, 0, 0, 0);
            Bench.jarDue("all stayed", x, 2, 0, 7, 0, 0, 1);
            Bench.work(x, "sift 1 2 0 1;");
            Bench.jarDue("all fell", x, 0, 0, 7, 0, 0, 1);
            Bench.jarDue("nothing stayed", x, 1, 0, 0, 0, 0, 0);
        });
        Bench.edge("one that is made empty is 0 old.", () -> {
            SnuffMill x = Bench.of("jar 9 0 0 0;jar 9 0 0 0;jar 9 0 0 0;jar 9 0 0 0;jar 0 0 0 0;sieve 0;");
            Bench.work(x, "day;day;pour 0 4;scoop 1 4 9;sell 2;");
            due("poured", x.jar(0, 5), 0);
            due("scooped", x.jar(1, 5), 0);
            due("sold", x.jar(2, 5), 0);
            Bench.work(x, "sift 0 3 0 1;");
            due("sifted", x.jar(3, 5), 0);
            due("what it came to", x.jar(0, 5), 2);
            Bench.work(x, "scoop 4 1 17;");
            due("one GRAM is left", x.jar(4, 5), 2);
            Bench.work(x, "scoop 4 1 1;day;");
            due("none is left", x.jar(4, 5), 0);
        });
    }

    private static void refusedSteps() {
        Bench.edge("STEPS are done in order; one that can't be done is REFUSED, and changes nothing", () -> {
            SnuffMill x = Bench.of("jar 9 1 0 0;jar 0 0 0 0;jar 0 0 9 0;stone 9 9 9;sieve 0;");
            due("in order", Bench.work(x, "pour 1 0;pour 0 1;pour 0 2;pour 1 2;sell 2;grind 0 1;day;"), 3);
            due("REFUSED", x.told(10), 4);
            Bench.jarDue("in order", x, 2, 9, 1, 9, 0, 1);
            refused(x, "pour 0 1;pour 0 0;pour 2 2;", 3);
            refused(x, "grind 0 0;sift 0 0 1 2;sift 0 2 2 0;sift 0 2 0 2;sift 0 2 1 1;", 5);
            refused(x, "scoop 2 0 20;scoop 2 2 1;sell 2;sell 0;", 4);
        });
    }

    private static void begunSteps() {
        Bench.edge("200 STEPS at most are begun by one WORK", () -> {
            SnuffMill x = Bench.of("jar 9 0 0 0;sieve 0;sieve 0;");
            // 1 and 5 times 39, then 4 more
            done(x, "again 39[day;day;day;day;day;];day;day;day;tear 0;", 199);
            due("the 200th is done", x.told(9), 1);
            x.undo();
            done(x, "again 39[day;day;day;day;day;];day;day;day;tear 0;tear 1;day;", 199);
            due("the 201st is not", x.told(9), 1);
            due("nor what comes behind it", x.told(4), 198);
            due("a new WORK begins anew", Bench.work(x, "again 39[day;day;day;day;day;];"), 195);
        });
        Bench.edge("(an again, too, each time it is come to; REFUSED ones, too)", () -> {
            SnuffMill x = Bench.of("jar 9 0 0 0;jar 0 0 0 0;sieve 0;");
            // 1 again; each time 1 again and 4 STEPS: 39 times 5 are 195, 4 are left: an again and 3 days
            done(x, "again 40[again 4[day;];];tear 0;", 159);
            due("nothing behind", x.told(9), 0);
            done(x, "again 40[again 0[day;];again 40[];day;tear 0;tear 0;];tear 0;", 119);
            due("199 by 5: 39 times, and 4 left", x.told(9), 1);
            x.undo();
            due("REFUSED ones", Bench.work(x, "again 40[pour 0 0;pour 0 0;pour 0 0;pour 0 0;day;];tear 0;"), 39);
            due("REFUSED", x.told(10), 160);
            due("nothing behind", x.told(9), 0);
            due("an again of none counts one", Bench.work(x, "again 39[pour 0 0;pour 0 0;pour 0 0;pour 0 0;pour 0 0;];again 40[];again 0[day;];tear 0;"), 1);
            due("its 199th is done", x.told(9), 1);
        });
        Bench.edge("what would come behind is left out", () -> {
            SnuffMill x = Bench.of("jar 9 0 0 0;sieve 0;");
            // 1, then 41 each time: four times, and an again and 34 days of the fifth
            due("left out ones are not REFUSED", Bench.work(x, "again 40[again 40[day;];];pour 0 0;"), 194);
            due("told(10)", x.told(10), 0);
            // 5, then 41 each time: four times, and an again and 30 days of the fifth
            due("six open", Bench.work(x, "again 40[".repeat(6) + "day;" + "];".repeat(6) + "tear 0;"), 190);
            due("nothing behind", x.told(9), 0);
        });
    }

    private static void grind() {
        Bench.edge("of the GRAMS of GRAINS 1, 2, 3 of the JAR, as they are ahead of it, P, Q, R of 10 (cut) come to the next finer one", () -> {
            SnuffMill x = Bench.of("jar 0 100 100 100;jar 0 9 19 29;jar 5 6 7 8;stone 10 10 10;stone 1 1 1;stone 0 0 0;stone 3 5 7;dust 0;");
            Bench.work(x, "grind 0 0;grind 1 1;grind 2 2;");
            Bench.jarDue("all of each", x, 0, 100, 100, 100, 0);
            Bench.jarDue("cut", x, 1, 0, 10, 20, 27);
            Bench.jarDue("none", x, 2, 5, 6, 7, 8);
            Bench.work(x, "grind 3 2;");
            // 1.8, 3.5, 5.6, each cut
            Bench.jarDue("each its own", x, 2, 6, 8, 9, 3);
        });
        Bench.edge("then N of dust of 100 (cut) of its GRAIN 0 are LOST", () -> {
            SnuffMill x = Bench.of("jar 15 10 0 0;jar 19 0 0 0;jar 20 0 0 0;jar 0 99 0 0;stone 5 0 0;stone 0 0 0;");
            // 20 of GRAIN 0 then: 5 of 100 are 1
            Bench.work(x, "grind 0 0;");
            Bench.jarDue("of what it has then", x, 0, 19, 5, 0, 0);
            due("LOST", x.told(6), 1);
            Bench.work(x, "grind 1 1;");
            due("cut", x.told(6), 1);
            Bench.work(x, "grind 1 2;grind 1 3;");
            due("just 1", x.told(6), 2);
            due("GRAMS of all", x.told(5), 15 + 10 + 19 + 20 + 99 - 2);
            SnuffMill y = Bench.of("jar 1 0 0 0;jar 2 0 0 0;jar 3 0 0 0;stone 0 0 0;dust 50;");
            Bench.work(y, "grind 0 0;grind 0 1;grind 0 2;");
            due("half of 1, cut", y.jar(0, 0), 1);
            due("half of 2", y.jar(1, 0), 1);
            due("half of 3, cut", y.jar(2, 0), 2);
            due("LOST", y.told(6), 2);
            SnuffMill z = Bench.of("jar 999 0 0 0;stone 0 0 0;dust 0;");
            done(z, "grind 0 0;", 1);
            due("no dust", z.told(6), 0);
            due("no dust", z.jar(0, 0), 999);
        });
        Bench.edge("LOST (REFUSED, if it is empty)", () -> {
            SnuffMill x = Bench.of("jar 0 0 0 0;jar 0 0 0 1;stone 10 10 10;");
            refused(x, "grind 0 0;", 1);
            done(x, "grind 0 1;", 1);
            Bench.jarDue("one GRAM", x, 1, 0, 0, 1, 0);
        });
    }

    private static void sift() {
        Bench.edge("the first JAR goes through the SIEVE; what falls comes to the second one, what stays to the third one; the first one is empty", () -> {
            SnuffMill x = Bench.of("jar 1 2 3 4;jar 10 20 30 40;jar 50 60 70 80;sieve 1;");
            Bench.work(x, "sift 0 0 2 1;");
            Bench.jarDue("first", x, 0, 0, 0, 0, 0, 0);
            Bench.jarDue("second", x, 2, 51, 62, 70, 80);
            Bench.jarDue("third", x, 1, 10, 20, 33, 44);
        });
        Bench.edge("all of GRAINS 0 to MESH falls, and, if the SIEVE is torn, half (cut) of the GRAIN behind that", () -> {
            for (int mesh = 0; mesh < 3; mesh++) {
                for (int torn = 0; torn < 2; torn++) {
                    SnuffMill x = Bench.of("jar 11 13 15 17;jar 0 0 0 0;jar 0 0 0 0;sieve 0;sieve " + mesh + ";");
                    done(x, (torn == 1 ? "tear 1;" : "tear 0;") + "sift 1 0 1 2;", 2);
                    for (int grain = 0; grain < 4; grain++) {
                        int has = 11 + 2 * grain;
                        int falls = grain <= mesh ? has : grain == mesh + 1 && torn == 1 ? has / 2 : 0;
                        due("falls: MESH " + mesh + ", torn " + torn + ", " + grain, x.jar(1, grain), falls);
                        due("stays: MESH " + mesh + ", torn " + torn + ", " + grain, x.jar(2, grain), has - falls);
                    }
                }
            }
            SnuffMill y = Bench.of("jar 0 1 0 0;jar 0 0 0 0;jar 0 0 0 0;sieve 0;");
            done(y, "tear 0;sift 0 0 1 2;", 2);
            due("half of 1 is 0", y.jar(1, 4), 0);
            due("1 stays", y.jar(2, 4), 1);
        });
        Bench.edge("(REFUSED, if the first one is empty, or two of the three are one)", () -> {
            SnuffMill x = Bench.of("jar 9 9 9 9;jar 0 0 0 0;jar 5 5 5 5;jar 0 0 0 0;sieve 0;");
            refused(x, "sift 0 1 2 3;", 1);
            refused(x, "sift 0 0 0 1;", 1);
            refused(x, "sift 0 0 1 0;", 1);
            refused(x, "sift 0 0 1 1;", 1);
            refused(x, "sift 0 0 0 0;", 1);
            done(x, "sift 0 0 1 3;", 1);
        });
    }

    private static void pourAndScoop() {
        Bench.edge("all of the first JAR comes to the second one (REFUSED, if it is empty, or both are one)", () -> {
            SnuffMill x = Bench.of("jar 1 2 3 4;jar 10 20 30 40;jar 0 0 0 0;");
            done(x, "pour 0 1;", 1);
            Bench.jarDue("second", x, 1, 11, 22, 33, 44);
            Bench.jarDue("first", x, 0, 0, 0, 0, 0);
            refused(x, "pour 0 1;", 1);
            refused(x, "pour 2 0;", 1);
            refused(x, "pour 1 1;", 1);
            refused(x, "pour 0 0;", 1);
        });
        Bench.edge("N GRAMS likewise, the finest first (REFUSED, if it has less, or both are one)", () -> {
            SnuffMill x = Bench.of("jar 2 2 2 2;jar 0 0 0 0;jar 0 0 0 0;");
            done(x, "scoop 0 1 1;", 1);
            Bench.jarDue("1", x, 1, 1, 0, 0, 0);
            done(x, "scoop 0 1 1;", 1);
            Bench.jarDue("2", x, 1, 2, 0, 0, 0);
            done(x, "scoop 0 1 3;", 1);
            Bench.jarDue("over two GRAINS", x, 1, 2, 2, 1, 0);
            Bench.jarDue("what is left", x, 0, 0, 0, 1, 2);
            refused(x, "scoop 0 1 4;", 1);
            refused(x, "scoop 0 0 1;", 1);
            refused(x, "scoop 2 1 1;", 1);
            done(x, "scoop 0 1 3;", 1);
            Bench.jarDue("just all of it", x, 1, 2, 2, 2, 2);
            due("empty then", x.told(8), 5);
        });
    }

    private static void tearSellDay() {
        Bench.edge("the SIEVE is torn, or, if it is, mended (never REFUSED)", () -> {
            SnuffMill x = Bench.of("sieve 0;sieve 0;sieve 0;sieve 0;");
            done(x, "tear 0;tear 3;", 2);
            due("torn", x.told(9), 9);
            done(x, "tear 0;", 1);
            due("mended", x.told(9), 8);
            done(x, "again 40[tear 3;];again 39[tear 2;];", 79);
            due("each time the other", x.told(9), 12);
        });
        Bench.edge("MONEY is more by GRAMS by 10 (cut); the JAR is empty", () -> {
            SnuffMill x = Bench.of("jar 0 0 0 9;jar 0 0 5 5;jar 19 0 0 0;jar 1 0 0 0;");
            Bench.law(x, "50");
            done(x, "sell 0;", 1);
            due("9 GRAMS bring 0", x.told(7), 0);
            due("and are gone", x.told(8), 1);
            done(x, "sell 1;", 1);
            due("10 bring 1", x.told(7), 1);
            done(x, "sell 2;sell 3;", 2);
            due("19 bring 1, 1 brings 0", x.told(7), 2);
            due("all are gone", x.told(5), 0);
            due("nothing is LOST by it", x.told(6), 0);
            SnuffMill y = Bench.of(FULL);
            Bench.law(y, "99");
            done(y, FILL + "sell 0;", 3);
            due("9,999 bring 999", y.told(7), 999);
        });
        Bench.edge("(REFUSED, if it is, or its SNEEZE is less than 50)", () -> {
            SnuffMill x = Bench.of("jar 20 0 0 0;jar 0 0 0 0;");
            Bench.law(x, "99");
            refused(x, "sell 1;", 1);
            Bench.law(x, "49");
            refused(x, "sell 0;", 1);
            Bench.law(x, "50");
            done(x, "sell 0;", 1);
            due("MONEY", x.told(7), 2);
            refused(x, "sell 0;", 1);
        });
        Bench.edge("day (REFUSED from DAY 400 on): each JAR that is not empty is 1 older; the DAY is one more.", () -> {
            SnuffMill x = Bench.of("jar 1 0 0 0;jar 0 0 0 0;");
            done(x, "again 39[day;day;day;day;day;];", 195);
            done(x, "again 39[day;day;day;day;day;];", 195);
            done(x, "again 9[day;];", 9);
            due("DAY", x.told(4), 399);
            done(x, "day;", 1);
            due("DAY", x.told(4), 400);
            due("so old", x.jar(0, 5), 400);
            due("an empty one", x.jar(1, 5), 0);
            refused(x, "day;", 1);
            refused(x, "day;day;", 2);
            due("DAY", x.told(4), 400);
            due("so old", x.jar(0, 5), 400);
            done(x, "scoop 0 1 1;", 1);
            due("other STEPS are done still", x.jar(1, 5), 400);
        });
    }
}
