/** Mills and texts that are as full as the document lets them be, asked and worked at their last JAR, SIEVE, byte. */
public final class FullEdgesTest {
    private static final String SIEVES = "sieve 0;sieve 1;sieve 2;sieve 0;";
    private static final String STONES = "stone 0 0 0;stone 1 1 1;stone 5 5 5;stone 10 10 10;";
    private static final String EMPTY = "jar 0 0 0 0;";
    /** JAR 0 alone of the first four is not empty, so it alone of them is aged. */
    private static final String SPARSE =
        "jar 5 5 0 0;" + EMPTY.repeat(3) + "jar 3 7 0 0;jar 9 0 0 1;" + STONES + SIEVES;

    private FullEdgesTest() {
    }

    public static void main(String[] args) {
        told();
        daysOfSixJars();
        askedOfSixJars();
        soldOfSixJars();
        lotsOfSixJars();
        stepsOfTheLast();
        yearsOfSixJars();
        allPairs();
        fullTexts();
        Bench.end();
    }

    private static void due(String call, long got, long want) {
        Bench.due(call, got, want);
    }

    private static void told() {
        Bench.edge("0 JARS, 1 STONES, 2 SIEVES, 3 N of dust, 4 the DAY, 5 GRAMS of all JARS, 6 GRAMS LOST by now, 7 MONEY", () -> {
            SnuffMill x = Bench.of("jar 999 999 999 999;".repeat(6) + STONES + SIEVES + "dust 50;");
            int[] full = {6, 4, 4, 50, 0, 23976, 0, 0};
            for (int what = 0; what < 8; what++) {
                due("told(" + what + ") at first", x.told(what), full[what]);
            }
            Bench.law(x, "99");
            // 999 and 999 of JAR 5 are 1,998 of GRAIN 0: half are LOST, then 499 of the 999 of JAR 4
            due("WORK", Bench.work(x, "grind 3 5;grind 0 4;sell 5;day;"), 4);
            int[] then = {6, 4, 4, 50, 1, 23976 - 999 - 499 - 2997, 1498, 299};
            for (int what = 0; what < 8; what++) {
                due("told(" + what + ") then", x.told(what), then[what]);
            }
            due("another WORK", Bench.work(x, "grind 0 4;sell 4;"), 2);
            due("LOST by now", x.told(6), 1498 + 250);
            due("MONEY", x.told(7), 299 + 324);
        });
    }

    private static void daysOfSixJars() {
        Bench.edge("each JAR that is not empty is 1 older; the DAY is one more.", () -> {
            SnuffMill x = Bench.of("jar 9 9 9 9;".repeat(6) + STONES + SIEVES);
            due("days", Bench.work(x, "again 9[day;];"), 9);
            for (int jar = 0; jar < 6; jar++) {
                Bench.jarDue("9 old, else as it was", x, jar, 9, 9, 9, 9, 9);
            }
            due("no SIEVE is torn by days", x.told(9), 0);
            due("DAY", x.told(4), 9);
            due("LOST", x.told(6), 0);
            due("MONEY", x.told(7), 0);
            due("tear and a day", Bench.work(x, "tear 3;tear 0;day;"), 3);
            due("torn as told", x.told(9), 9);
        });
    }

    private static void askedOfSixJars() {
        Bench.edge("JARS, numbered from 0 on, 6 at most", () -> {
            SnuffMill x = Bench.of(SPARSE);
            due("a WORK", Bench.work(x, "day;tear 0;tear 1;tear 2;tear 3;"), 5);
            due("GRAMS", x.told(5), 30);
            due("empty", x.told(8), 14);
            due("torn", x.told(9), 15);
            due("even", x.even(), 0);
            due("the oldest", x.oldest(0), 0);
            due("how old", x.oldest(1), 1);
            due("like the last", x.like(5), 0);
            due("like the first", x.like(0), 4);
            due("like an empty one", x.like(3), 4);
            due("amount", x.amount(0, 0), 17);
            due("most of it", x.amount(0, 1), 5);
            due("amount", x.amount(3, 0), 1);
            due("most of it", x.amount(3, 1), 5);
            due("none has any", x.amount(2, 1), -1);
            due("falls through all", x.passes(1), 17);
            due("not all falls", x.passes(0), 0);
            due("falls", x.through(3, 0), 17 + 2 + 3);
            due("stays", x.through(3, 1), 8);
            due("space of the last", x.space(5), 9989);
            Bench.missing("space(6)", () -> x.space(6));
        });
    }

    private static void soldOfSixJars() {
        Bench.edge("JARS (bits) that could be sold now.", () -> {
            SnuffMill x = Bench.of(SPARSE);
            Bench.work(x, "again 40[day;];");
            Bench.law(x, "jar*16");
            due("the last is sharpest", x.sharpest(0), 5);
            due("its SNEEZE", x.sharpest(1), 80);
            due("the last two", x.ripe(), 48);
            due("both bring 1", x.worth(), 2);
            Bench.law(x, "99*(jar/6)");
            due("of SNEEZE 0 the first", x.sharpest(0), 0);
            due("none", x.ripe(), 0);
            due("none", x.worth(), 0);
            due("the last never", x.ripens(5), -1);
            Bench.law(x, "50*(jar/5)");
            due("the last alone", x.ripe(), 32);
            due("the last alone", x.worth(), 1);
            due("the last now", x.ripens(5), 0);
            due("poured into it", x.blend(0, 5), 50);
            due("poured from it", x.blend(5, 0), 0);
        });
    }

    private static void lotsOfSixJars() {
        Bench.edge("IllegalArgumentException: bits of no JARS (so below).", () -> {
            SnuffMill x = Bench.of("jar 32 0 0 0;jar 16 0 0 0;jar 8 0 0 0;jar 4 0 0 0;jar 2 0 0 0;jar 1 0 0 0;");
            Bench.work(x, "again 9[day;];");
            due("32 and 31", x.halves(63, 0), 1);
            due("the first alone", x.halves(63, 1), 1);
            due("of the last alone", x.halves(32, 0), 1);
            due("of the last alone", x.halves(32, 1), 32);
            Bench.law(x, "10");
            due("all but the first", x.box(63, 31, 2), 62);
            due("all", x.box(63, 63, 0), 60);
            due("one GRAM", x.box(63, 1, 2), 32);
            due("by a bound of 4", x.shelf(0, 63, 19), 4);
            due("what it has", x.shelf(5, 63, 19), 1);
            due("by a bound of 3", x.shelf(0, 63, 18), 3);
            Bench.wrong("halves(64, 0)", () -> x.halves(64, 0));
            Bench.wrong("box(64, 9, 0)", () -> x.box(64, 9, 0));
            Bench.wrong("shelf(0, 64, 9)", () -> x.shelf(0, 64, 9));
        });
    }

    private static void stepsOfTheLast() {
        Bench.edge("STEPS are done in order", () -> {
            SnuffMill x = Bench.of("jar 1 1 1 1;jar 1 1 1 1;jar 1 1 1 1;jar 1 1 1 1;jar 0 10 20 30;jar 10 20 30 40;"
                + STONES + SIEVES + "dust 0;");
            due("grind", Bench.work(x, "grind 3 5;day;"), 2);
            Bench.jarDue("ground", x, 5, 30, 30, 40, 0, 1);
            Bench.jarDue("the one ahead of it is not", x, 4, 0, 10, 20, 30, 1);
            due("sift", Bench.work(x, "tear 3;sift 3 5 4 3;"), 2);
            Bench.jarDue("sifted", x, 5, 0, 0, 0, 0, 0);
            Bench.jarDue("fell", x, 4, 30, 25, 20, 30, 1);
            Bench.jarDue("stayed", x, 3, 1, 16, 41, 1, 1);
            due("pour and scoop", Bench.work(x, "pour 4 5;scoop 5 4 31;day;"), 3);
            Bench.jarDue("what is left", x, 5, 0, 24, 20, 30, 2);
            Bench.jarDue("the finest first", x, 4, 30, 1, 0, 0, 2);
            Bench.law(x, "50*(jar/5)");
            due("sell", Bench.work(x, "sell 4;sell 5;"), 1);
            due("MONEY", x.told(7), 7);
            due("empty", x.told(8), 32);
            Bench.jarDue("empty", x, 5, 0, 0, 0, 0, 0);
            due("torn", x.told(9), 8);
            due("undo", x.undo(), 3);
            Bench.jarDue("not sold", x, 5, 0, 24, 20, 30, 2);
        });
    }

    /** DAYS with no SNEEZE at all: what is LOST is all that can change GRAMS. */
    private static void yearsOfSixJars() {
        Bench.edge("for so many DAYS", () -> {
            SnuffMill x = Bench.of("jar 0 0 0 999;".repeat(6) + STONES + SIEVES + "dust 50;");
            Bench.law(x, "0");
            Bench.work(x, "day;tear 1;");
            String before = Bench.state(x);
            for (int seed = 0; seed < 20; seed++) {
                int left = x.year(seed, 16, 48, 1);
                due("all that is not LOST, SEED " + seed, left + x.year(seed, 16, 48, 2), 5994);
                due("MONEY, SEED " + seed, x.year(seed, 16, 48, 0), 0);
                due("JARS of told ones alone, SEED " + seed, x.year(seed, 16, 48, 3) & ~63, 0);
            }
            Bench.stateDue("nothing stays changed", x, before);
        });
    }

    private static void allPairs() {
        Bench.edge("fewest such pairs are left at the worst", () -> {
            SnuffMill x = Bench.of("jar 1 0 0 0;".repeat(6) + "sieve 0;".repeat(4));
            due("all pairs", x.fits(0), 24);
            due("no GRAIN parts them", x.look(0), 0);
            due("all are left", x.look(1), 24);
            Bench.book(x, "0 1;1 0;2 0;");
            due("all fit", x.fits(0), 24);
            due("the last GRAIN", x.look(0), 3);
            due("all are left", x.look(1), 24);
            SnuffMill y = Bench.of("jar 1 8 0 0;jar 2 8 0 0;jar 3 8 0 0;jar 4 8 0 0;jar 5 8 0 0;jar 6 8 0 0;"
                + "sieve 0;sieve 1;sieve 1;sieve 2;");
            due("four of each by GRAIN 0", y.look(0), 0);
            due("four of each by GRAIN 0", y.look(1), 4);
            Bench.book(y, "0 6;");
            due("the last JAR's", y.fits(0), 4);
            due("the first of these", y.fits(1), 5);
            due("by GRAIN 1", y.look(0), 1);
            due("three let it fall", y.look(1), 3);
            Bench.work(y, "tear 0;");
            Bench.book(y, "0 6;1 4;");
            due("the torn one alone", y.fits(0), 1);
            due("the torn one alone", y.fits(1), 5);
        });
    }

    private static void fault(SnuffMill x, char kind, String text, int answer, int place) {
        due(kind + " '" + text + "'", Bench.read(x, kind, text), answer);
        due(kind + " '" + text + "' fault()", x.fault(), place);
    }

    private static void fullTexts() {
        Bench.edge("at the end nothing more", () -> {
            SnuffMill x = new SnuffMill();
            String ones = "1" + "+1".repeat(74);
            fault(x, 'l', ones + "x", -9, 149);
            fault(x, 'l', ones + ")", -9, 149);
            fault(x, 'l', ones + "+", -9, 150);
            fault(x, 'l', ones + "1", 1, -1);
            due("the last is 11", x.would(0, 0, 0, 0, 0, 0, 0), 85);
        });
        Bench.edge("WORK is a text of up to 150 bytes: { STEP \";\" }.", () -> {
            SnuffMill x = new SnuffMill();
            String days = "day;".repeat(37);
            fault(x, 'w', days + "x", -9, 148);
            fault(x, 'w', days + ";", -9, 148);
            fault(x, 'w', days + " ]", -9, 149);
            due("none is done", x.told(4), 0);
            fault(x, 'w', days + "  ", 37, -1);
            due("each is done", x.told(4), 37);
            fault(x, 'w', "again 1[" + "day;".repeat(35) + "x", -9, 148);
            fault(x, 'w', "again 1[" + "day;".repeat(35) + "];", 35, -1);
            due("each is done", x.told(4), 72);
        });
        Bench.edge("A BOOK is one of up to 60 bytes: { G N \";\" }, no G twice", () -> {
            SnuffMill x = Bench.of("jar 1 0 0 0;sieve 0;");
            fault(x, 'b', "0 0;1 0;2 0;3 0;;", -9, 16);
            fault(x, 'b', "0 0;1 0;2 0;3 0;  4 0;", -8, 18);
            fault(x, 'b', "0 0;1 0;2 0;3 0;" + " ".repeat(44), 4, -1);
            fault(x, 'b', "0 0;1 0;2 0;3 0;" + " ".repeat(43) + "3", -8, 59);
            due("the BOOK is as it was", x.told(12), 4);
        });
        Bench.edge("A STACK is one of up to 60 bytes", () -> {
            SnuffMill x = Bench.of("jar 1 0 0 0;" + SIEVES);
            fault(x, 's', "3;".repeat(8) + " ".repeat(44), 8, -1);
            fault(x, 's', "3;".repeat(8) + " ".repeat(43) + ";", -9, 59);
            fault(x, 's', "3;".repeat(8) + " ".repeat(43) + "4", -8, 59);
            fault(x, 's', "3;".repeat(8) + " ".repeat(43) + "3", -7, 59);
            due("the STACK is as it was", x.told(11), 8);
            due("a torn SIEVE or not, all falls", x.stays(0, 8), 1);
        });
    }
}
