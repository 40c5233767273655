import static java.lang.Integer.MAX_VALUE;
import static java.lang.Integer.MIN_VALUE;

/** Each promise of the document by runs made by hand: ordinary inputs, the edges it names, wrong inputs. */
public final class PromiseTest {
    private static final String MILL =
        "jar 100 40 20 10;jar 0 0 0 0;jar 5 0 0 95;jar 0 0 50 0;stone 5 10 2;stone 0 0 0;sieve 0;sieve 1;dust 10;";

    private PromiseTest() {
    }

    public static void main(String[] args) {
        newObject();
        feed();
        mill();
        millFaults();
        law();
        lawFaults();
        work();
        workFaults();
        grind();
        sift();
        pourAndScoop();
        sellAndDay();
        begunSteps();
        stack();
        book();
        undo();
        tooManyWorks();
        told();
        jarStoneSieve();
        sneezeAndWould();
        ground();
        falls();
        milled();
        stays();
        halves();
        box();
        fitsAndLook();
        fit();
        shops();
        shelf();
        sharpestAndRipe();
        blendAndRipens();
        evenSpaceOldest();
        passesAmountWorth();
        likeAndThrough();
        yearAndSpan();
        imageAndRestore();
        statusAndCount();
        manyMills();
        textsEndAtTheirLength();
        longWorks();
        oneGram();
        manyGrindings();
        worksOfImages();
        sixJars();
        Bench.end();
    }

    private static void due(String call, long got, long want) {
        Bench.due(call, got, want);
    }

    private static SnuffMill mended() {
        return Bench.of(MILL);
    }

    /** A text that has a FAULT: its answer and its place; n bytes of it are read. */
    private static void faulty(char kind, String text, int answer, int place) {
        SnuffMill x = mended();
        int n = Bench.put(x, text);
        long got = kind == 'm' ? x.mill(n) : kind == 'l' ? x.law(n) : kind == 'w' ? x.work(n)
            : kind == 's' ? x.stack(n) : x.book(n);
        due(kind + " '" + text + "'", got, answer);
        due(kind + " '" + text + "' fault()", x.fault(), place);
        due(kind + " '" + text + "' count(1)", x.count(1), 0);
        due(kind + " '" + text + "' told(5)", x.told(5), 320);
    }

    private static void sound(char kind, String text, int answer) {
        faulty(kind, text, answer, -1);
    }

    // ---- promises 1 to 9 and the STEPS ----

    private static void newObject() {
        SnuffMill x = new SnuffMill();
        int[] want = {0, 0, 0, 5, 0, 0, 0, 0, 0, 0, 0, 0, 0};
        for (int what = 0; what < want.length; what++) {
            due("new told(" + what + ")", x.told(what), want[what]);
        }
        due("new fault()", x.fault(), SnuffMill.NONE);
        for (int what = 0; what < 3; what++) {
            due("new count(" + what + ")", x.count(what), 0);
        }
        due("NONE", SnuffMill.NONE, -1);
        Bench.missing("new jar(0, 0)", () -> x.jar(0, 0));
        Bench.missing("new stone(0, 0)", () -> x.stone(0, 0));
        Bench.missing("new sieve(0, 0)", () -> x.sieve(0, 0));
    }

    private static void feed() {
        SnuffMill x = new SnuffMill();
        for (int i = 1; i <= 30; i++) {
            due("feed " + i, x.feed(0x20202020, 0, -1, MIN_VALUE, MAX_VALUE), 20 * i);
        }
        due("feed beyond 600", x.feed(0x20202020, 0, 0, 0, 0), -1);
        due("TAPE full", x.count(1), 600);
        due("mill(4) of blanks", x.mill(4), 0);
        due("feed behind a text", x.feed(0x64757374, 0x2039, 0x3b000000, 0, 0), 20);
        // bytes: d u s t 0 0 blank 9 ;
        due("mill(9) with bytes 0", x.mill(9), -9);
        due("place of a byte 0", x.fault(), 4);
        x.feed(0x64757374, 0x20393b20, 0, 0, 0);
        due("mill(8)", x.mill(8), 0);
        due("the highest byte comes first", x.told(3), 9);
        x.feed(0xe9000000, 0, 0, 0, 0);
        due("byte 233", x.mill(1), -9);
    }

    private static void mill() {
        SnuffMill x = mended();
        due("jars", x.told(0), 4);
        Bench.law(x, "1");
        Bench.stack(x, "0;1;");
        Bench.book(x, "0 5;");
        x.image();
        Bench.work(x, "day;grind 0 1;tear 0;grind 0 0;sell 0;");
        due("refused", x.told(10), 2);
        due("mill with a FAULT", Bench.mill(x, "jar 1 2 3 4;jar"), -9);
        due("fault", x.fault(), 15);
        due("all stays: JARS", x.told(0), 4);
        due("all stays: DAY", x.told(4), 1);
        due("all stays: LAW", x.sneeze(0), 1);
        due("all stays: STACK", x.told(11), 2);
        due("all stays: BOOK", x.told(12), 1);
        due("all stays: IMAGES", x.count(0), 1);
        due("all stays: WORKS", x.count(2), 1);
        due("all stays: REFUSED", x.told(10), 2);
        due("the TAPE is empty", x.count(1), 0);
        Bench.put(x, "jar 9 1 0 0;");
        Bench.wrong("mill(-1)", () -> x.mill(-1));
        Bench.wrong("mill(21)", () -> x.mill(21));
        due("the TAPE stays", x.count(1), 20);
        due("fault stays behind an exception", x.fault(), 15);
        due("another mill", x.mill(12), 1);
        due("no FAULT", x.fault(), -1);
        due("the TAPE is empty", x.count(1), 0);
        due("no LAW", x.sneeze(0), 9 * 90 / 11);
        int[] want = {1, 0, 0, 5, 0, 10, 0, 0, 0, 0, 0, 0, 0};
        for (int what = 0; what < want.length; what++) {
            due("another mill: told(" + what + ")", x.told(what), want[what]);
        }
        due("no IMAGES", x.count(0), 0);
        due("nothing to undo", x.undo(), -1);
        due("mill(0)", x.mill(0), 0);
        due("no JARS", x.told(0), 0);
    }

    private static void millFaults() {
        SnuffMill x = new SnuffMill();
        due("blanks anywhere", Bench.mill(x, "  jar   1 02 0000000000003 999 ; dust50;sieve2 ;stone10 0 10;dust 0;  "), 1);
        due("dust: the last counts", x.told(3), 0);
        due("mesh", x.sieve(0, 0), 2);
        Bench.jarDue("grams", x, 0, 1, 2, 3, 999, 0);
        faulty('m', "jar 1000 0 0 0;", -8, 4);
        faulty('m', "jar 0 0 0 99999999999999999999;", -8, 10);
        faulty('m', "jar 0 0 0 4294967296;", -8, 10);
        faulty('m', "stone 0 11 0;", -8, 8);
        faulty('m', "sieve 3;", -8, 6);
        faulty('m', "dust 51;", -8, 5);
        faulty('m', "jar 0 0 0;", -9, 9);
        faulty('m', "jar 0 0 0 0 0;", -9, 12);
        faulty('m', "jar 0 0 0 0", -9, 11);
        faulty('m', "jar 0 0 0 0  ", -9, 13);
        faulty('m', "jars 0 0 0 0;", -9, 0);
        faulty('m', "  ja r;", -9, 2);
        faulty('m', "Jar 0 0 0 0;", -9, 0);
        faulty('m', "car 0 0 0 0;", -9, 0);
        faulty('m', "jarz 0 0 0 0;", -9, 0);
        faulty('m', "jar{0 0 0 0;", -9, 3);
        faulty('m', "dust -1;", -9, 5);
        faulty('m', "dust 1;;", -9, 7);
        faulty('m', "7;", -9, 0);
        faulty('m', "dust\t1;", -9, 4);
        String jar = "jar 0 0 0 0;";
        faulty('m', jar.repeat(6) + " " + jar, -7, 73);
        faulty('m', jar.repeat(6) + "jar", -7, 72);
        faulty('m', jar.repeat(6) + "jars", -9, 72);
        faulty('m', "stone 0 0 0;".repeat(4) + "stone 0 0 0;", -7, 48);
        faulty('m', "sieve 0;".repeat(4) + "sieve 9;", -7, 32);
        faulty('m', "dust 1;".repeat(60) + "  dust 99;", -7, 422);
        faulty('m', "dust 1;".repeat(60) + "dusty 99;", -9, 420);
        SnuffMill y = new SnuffMill();
        due("6 JARS, 4 STONES, 4 SIEVES", Bench.mill(y, jar.repeat(6) + "stone 0 0 0;".repeat(4) + "sieve 0;".repeat(4)), 6);
        due("60 CLAUSES", Bench.mill(y, "dust 1;".repeat(60)), 0);
    }

    private static void law() {
        SnuffMill x = mended();
        due("law", Bench.law(x, "fine - mid * 2 + coarse / 3 % 4"), 1);
        // 100 - 80 + (20 / 3 = 6) % 4 = 2
        due("signs bind", x.sneeze(0), 22);
        due("law", Bench.law(x, "(10-3-2)*(jar+1)"), 1);
        due("from the left", x.sneeze(2), 15);
        due("law", Bench.law(x, "least[all,most[husk,7]]"), 1);
        due("least, most", x.sneeze(0), 10);
        due("least of an empty one", x.sneeze(1), 0);
        due("0 at least", law(x, "0-5"), 0);
        due("99 at most", law(x, "100"), 99);
        due("by 0", law(x, "7+5/(mid-mid)+9%0"), 7);
        due("/ cuts", law(x, "(0-7)/2+10"), 7);
        due("% has the sign of what is divided", law(x, "(0-7)%4+10"), 7);
        due("% by a negative one", law(x, "7%(0-4)"), 3);
        // 999^3 = 997002999; times 5 = 4985014995, less 2^32 = 690047699
        due("values wrap", law(x, "999*999*999*5/500/500/40"), 69);
        // 2^31 is below 0 in 32 bits; less 1 it is above again
        due("the least value", law(x, "(128*128*128*128*8 - 1) / (256*256*256)"), 99);
        due("the least value, by -1", law(x, "(128*128*128*128*8) / (0-1) / (0-256*256*256*4)"), 32);
        due("the least value, left by -1", law(x, "(128*128*128*128*8) % (0-1) + 5"), 5);
        due("blanks", law(x, "  least  [ 8 , 9 ]  "), 8);
        due("words and numbers side by side", law(x, "0012*003"), 36);
        Bench.work(x, "day;day;");
        due("age, day", law(x, "10*age+day"), 22);
        SnuffMill y = mended();
        Bench.put(y, "1" + " ".repeat(179));
        Bench.wrong("law(151)", () -> y.law(151));
        Bench.wrong("law(-1)", () -> y.law(-1));
        due("the TAPE stays", y.count(1), 180);
        due("law(150)", y.law(150), 1);
        due("LAW with a FAULT", Bench.law(y, "2+"), -9);
        due("the LAW stays", y.sneeze(0), 1);
        due("a LAW is kept by WORK and undo", Bench.work(y, "day;"), 1);
        y.undo();
        due("the LAW stays", y.sneeze(0), 1);
    }

    private static int law(SnuffMill x, String text) {
        Bench.due("law '" + text + "'", Bench.law(x, text), 1);
        return x.sneeze(0);
    }

    private static void lawFaults() {
        faulty('l', "", -9, 0);
        faulty('l', "   ", -9, 3);
        faulty('l', "1000", -8, 0);
        faulty('l', " 1 + 99999999999", -8, 5);
        faulty('l', "1 2", -9, 2);
        faulty('l', "fine)", -9, 4);
        faulty('l', "(fine", -9, 5);
        faulty('l', "(fine]", -9, 5);
        faulty('l', "-1", -9, 0);
        faulty('l', "1+*2", -9, 2);
        faulty('l', "Fine", -9, 0);
        faulty('l', "fines", -9, 0);
        faulty('l', "least(1,2)", -9, 5);
        faulty('l', "least[1;2]", -9, 7);
        faulty('l', "most[1,2", -9, 8);
        faulty('l', "most[1]", -9, 6);
        faulty('l', "1;", -9, 1);
        sound('l', "((((((1))))))", 1);
        faulty('l', "(((((((1)))))))", -7, 6);
        sound('l', "(((least[most[(1),(2)],3])))", 1);
        faulty('l', "(((least[most[( least", -7, 16);
        faulty('l', "(((((( most", -7, 7);
        sound('l', "((((least[1,(2)]))))", 1);
        faulty('l', "(((((least[1,(2)])))))", -7, 13);
        faulty('l', "(((((least[(1),2])))))", -7, 11);
        faulty('l', "(((((( mos", -9, 7);
        sound('l', "(1)+(2)+(3)+(4)+(5)+(6)+(7)+(8)", 1);
        sound('l', "(((((1)))))*((((((2))))))", 1);
    }

    private static void work() {
        SnuffMill x = mended();
        due("work", Bench.work(x, "day;again 2[day;again 1[tear 0;];];pour 1 0;"), 5);
        due("REFUSED", x.told(10), 1);
        due("DAY", x.told(4), 3);
        due("mended again", x.told(9), 0);
        due("again 0", Bench.work(x, "again 0[day;];again 40[];"), 0);
        due("no REFUSED", x.told(10), 0);
        due("DAY", x.told(4), 3);
        due("WORK with a FAULT", Bench.work(x, "pour 1 0;day;day"), -9);
        due("none is done", x.told(4), 3);
        due("told(10) stays", x.told(10), 0);
        due("no WORK more", x.count(2), 2);
        due("no STEPS", Bench.work(x, "  "), 0);
        due("a WORK more", x.count(2), 3);
        Bench.put(x, "day;" + " ".repeat(176));
        Bench.wrong("work(151)", () -> x.work(151));
        Bench.wrong("work(-1)", () -> x.work(-1));
        due("the TAPE stays", x.count(1), 180);
        due("work(150)", x.work(150), 1);
    }

    private static void workFaults() {
        faulty('w', "grind 2 0;", -8, 6);
        faulty('w', "grind 0 4;", -8, 8);
        faulty('w', "sift 2 0 1 2;", -8, 5);
        faulty('w', "sift 1 0 1 4;", -8, 11);
        faulty('w', "sift 1 4 0 1;", -8, 7);
        faulty('w', "sift 1 0 4 1;", -8, 9);
        faulty('w', "pour 0 4;", -8, 7);
        faulty('w', "scoop 4 0 1;", -8, 6);
        faulty('w', "scoop 0 4 1;", -8, 8);
        sound('w', "sift 1 1 1 3;pour 3 3;scoop 3 3 999;", 0);
        faulty('w', "pour 0 1 2;", -9, 9);
        faulty('w', "pour 4 0;", -8, 5);
        faulty('w', "scoop 0 1 0;", -8, 10);
        faulty('w', "scoop 0 1 1000;", -8, 10);
        faulty('w', "scoop 0 1;", -9, 9);
        faulty('w', "tear 2;", -8, 5);
        faulty('w', "sell 4;", -8, 5);
        faulty('w', "day 1;", -9, 4);
        faulty('w', "again 41[];", -8, 6);
        faulty('w', "again [];", -9, 6);
        faulty('w', "again 1 day;", -9, 8);
        faulty('w', "again 1[day];", -9, 11);
        faulty('w', "again 1[day;]", -9, 13);
        faulty('w', "again 1[day;", -9, 12);
        faulty('w', "day;];", -9, 4);
        faulty('w', "grin 0 0;", -9, 0);
        faulty('w', "again 0[".repeat(6) + "again", -7, 48);
        sound('w', "again 1[".repeat(6) + "];".repeat(6), 0);
        sound('w', "again 1[" + "again 1[];".repeat(8) + "];", 0);
        SnuffMill x = new SnuffMill();
        due("no STONES", Bench.work(x, "grind 0 0;"), -8);
        due("at the STONE", x.fault(), 6);
    }

    private static void grind() {
        SnuffMill x = mended();
        due("grind", Bench.work(x, "grind 0 0;"), 1);
        // 20 of 40, 20 of 20, 2 of 10 come down; 120 less 12
        Bench.jarDue("grind", x, 0, 108, 40, 2, 8, 0);
        due("LOST", x.told(6), 12);
        due("an empty one", Bench.work(x, "grind 0 1;"), 0);
        due("REFUSED", x.told(10), 1);
        due("grind by nothing", Bench.work(x, "grind 1 3;"), 1);
        Bench.jarDue("dust of none", x, 3, 0, 0, 50, 0, 0);
        due("LOST so far", x.told(6), 12);
        SnuffMill y = Bench.of("jar 1 19 0 7;stone 1 0 5;dust 50;");
        Bench.work(y, "day;grind 0 0;");
        // 1 of 19, 3 of 7 (cut); 2 less 1
        Bench.jarDue("cut", y, 0, 1, 18, 3, 4, 1);
        Bench.work(y, "again 9[grind 0 0;];");
        due("never empty by dust", y.told(8), 0);
        SnuffMill z = Bench.of("jar 0 0 0 999;stone 10 10 10;");
        Bench.work(z, "grind 0 0;");
        Bench.jarDue("as they are ahead", z, 0, 0, 0, 999, 0, 0);
        Bench.work(z, "grind 0 0;grind 0 0;");
        Bench.jarDue("dust is 5 without", z, 0, 950, 0, 0, 0, 0);
    }

    private static void sift() {
        SnuffMill x = mended();
        due("sift", Bench.work(x, "day;sift 1 0 1 3;"), 2);
        Bench.jarDue("empty", x, 0, 0, 0, 0, 0, 0);
        Bench.jarDue("fell", x, 1, 100, 40, 0, 0, 1);
        Bench.jarDue("stayed", x, 3, 0, 0, 70, 10, 1);
        due("REFUSED ones", Bench.work(x, "sift 0 0 1 2;sift 0 1 1 2;sift 0 1 2 1;sift 0 1 2 2;"), 0);
        due("REFUSED", x.told(10), 4);
        due("nothing falls", Bench.work(x, "sift 1 3 0 2;"), 1);
        Bench.jarDue("stays as it is", x, 0, 0, 0, 0, 0, 0);
        Bench.jarDue("all stays", x, 2, 5, 0, 70, 105, 1);
        due("torn", Bench.work(x, "tear 1;sift 1 2 0 3;"), 2);
        Bench.jarDue("half falls", x, 0, 5, 0, 35, 0, 1);
        Bench.jarDue("half stays", x, 3, 0, 0, 35, 105, 1);
        due("half, cut", Bench.work(x, "sift 1 3 2 0;"), 1);
        Bench.jarDue("half falls", x, 2, 0, 0, 17, 0, 1);
        due("mended", Bench.work(x, "tear 1;sift 1 2 3 0;"), 2);
        Bench.jarDue("nothing fell", x, 3, 0, 0, 0, 0, 0);
        SnuffMill y = Bench.of("jar 1 0 0 0;jar 0 0 0 7;jar 5 0 0 0;sieve 2;sieve 0;");
        Bench.work(y, "tear 0;sift 0 1 0 2;");
        Bench.jarDue("mesh 2, torn", y, 0, 1, 0, 0, 3, 0);
        Bench.jarDue("mesh 2, torn", y, 2, 5, 0, 0, 4, 0);
    }

    private static void pourAndScoop() {
        SnuffMill x = Bench.of("jar 999 999 999 999;jar 999 999 999 999;jar 999 999 9 0;jar 1 0 0 0;jar 0 0 0 0;jar 0 0 2 3;sieve 1;");
        due("up to 9,999", Bench.work(x, "pour 1 0;pour 2 0;"), 2);
        due("9,999", x.jar(0, 4), 9999);
        due("more is REFUSED", Bench.work(x, "pour 3 0;scoop 3 0 1;sift 0 3 0 1;sift 0 5 1 0;sift 0 3 1 0;"), 1);
        due("REFUSED", x.told(10), 4);
        due("still 9,999", x.jar(0, 4), 9999);
        Bench.jarDue("nothing stayed", x, 1, 1, 0, 0, 0, 0);
        due("pour REFUSED", Bench.work(x, "pour 4 1;pour 1 1;"), 0);
        due("scoop", Bench.work(x, "scoop 0 4 999;scoop 0 4 999;scoop 0 4 999;scoop 0 4 1;"), 4);
        // GRAIN 0 of JAR 0 is 2997
        Bench.jarDue("the finest first", x, 4, 2997, 1, 0, 0, 0);
        due("scoop REFUSED", Bench.work(x, "scoop 5 1 6;scoop 5 5 1;scoop 2 1 1;"), 0);
        SnuffMill y = Bench.of("jar 1 2 3 4;jar 0 0 0 0;jar 5 0 0 0;");
        due("all of it", Bench.work(y, "day;scoop 0 1 10;day;pour 1 0;scoop 2 1 2;"), 5);
        Bench.jarDue("older", y, 0, 1, 2, 3, 4, 2);
        Bench.jarDue("emptied, filled", y, 1, 2, 0, 0, 0, 2);
        due("into an empty one", Bench.work(y, "sell 2;sell 1;day;pour 0 1;day;"), 5);
        Bench.jarDue("older one of both", y, 1, 1, 2, 3, 4, 4);
        Bench.jarDue("emptied: 0 old", y, 0, 0, 0, 0, 0, 0);
        SnuffMill z = Bench.of("jar 60 0 0 0;jar 0 9 0 0;jar 0 1 0 0;sieve 0;");
        due("ages", Bench.work(z, "day;day;sell 0;scoop 1 0 4;day;"), 5);
        Bench.jarDue("as old as what came", z, 0, 0, 4, 0, 0, 3);
        due("an empty one stays 0 old", Bench.work(z, "pour 0 1;day;sift 0 1 0 2;"), 3);
        Bench.jarDue("gets 0 GRAMS", z, 0, 0, 0, 0, 0, 0);
        Bench.jarDue("gets all", z, 2, 0, 10, 0, 0, 4);
    }

    private static void sellAndDay() {
        SnuffMill x = mended();
        due("sell", Bench.work(x, "sell 0;sell 0;sell 1;sell 2;"), 1);
        due("MONEY", x.told(7), 17);
        due("REFUSED", x.told(10), 3);
        Bench.jarDue("sold", x, 0, 0, 0, 0, 0, 0);
        Bench.law(x, "49");
        due("49", Bench.work(x, "sell 2;"), 0);
        Bench.law(x, "50");
        due("50", Bench.work(x, "sell 2;"), 1);
        due("MONEY", x.told(7), 27);
        SnuffMill y = Bench.of("jar 19 0 0 0;jar 0 0 0 0;");
        for (int i = 0; i < 2; i++) {
            due("195 days", Bench.work(y, "again 39[day;day;day;day;day;];"), 195);
        }
        due("DAY", y.told(4), 390);
        due("up to 400", Bench.work(y, "again 40[day;];again 40[day;];"), 10);
        due("REFUSED", y.told(10), 70);
        due("DAY", y.told(4), 400);
        due("as old", y.jar(0, 5), 400);
        due("an empty one is 0 old", y.jar(1, 5), 0);
        due("MONEY, cut", Bench.work(y, "sell 0;"), 1);
        due("MONEY, cut", y.told(7), 1);
    }

    private static void begunSteps() {
        SnuffMill x = mended();
        due("1 and 5 times 39", Bench.work(x, "again 40[day;day;day;day;pour 1 1;];day;"), 4 * 39 + 4);
        due("REFUSED ones count", x.told(10), 39);
        // 1 again, then each time 1 again and 4 days: 39 times 5, and then 4 are left: an again and 3 days
        due("an again counts each time", Bench.work(x, "again 40[again 4[day;];];"), 4 * 39 + 3);
        due("empty agains count", Bench.work(x, "again 40[again 40[];again 40[];again 40[];again 40[];day;];"), 39);
        due("just 200", Bench.work(x, "again 39[tear 0;tear 0;tear 0;tear 0;tear 0;];tear 1;tear 1;tear 1;tear 1;tear 1;"), 199);
        due("the last ones of them", x.told(9), 1);
    }

    private static void stack() {
        SnuffMill x = mended();
        due("stack", Bench.stack(x, " 1 ; 0;01;"), 3);
        due("told(11)", x.told(11), 3);
        due("stack with a FAULT", Bench.stack(x, "1;1"), -9);
        due("it stays", x.told(11), 3);
        due("8 SIEVES", Bench.stack(x, "0;1;0;1;0;1;0;1;"), 8);
        due("stack(0)", Bench.stack(x, ""), 0);
        faulty('s', "2;", -8, 0);
        faulty('s', "0;1;0;1;0;1;0;1; 0;", -7, 17);
        faulty('s', "0;1;0;1;0;1;0;1;2;", -8, 16);
        faulty('s', "0;1;0;1;0;1;0;1;x", -9, 16);
        faulty('s', "0 1;", -9, 2);
        faulty('s', ";", -9, 0);
        faulty('s', "sieve", -9, 0);
        Bench.put(x, "0;" + " ".repeat(78));
        Bench.wrong("stack(61)", () -> x.stack(61));
        Bench.wrong("stack(-1)", () -> x.stack(-1));
        due("stack(60)", x.stack(60), 1);
        Bench.mill(x, "jar 1 1 1 1;");
        due("no STACK", x.told(11), 0);
    }

    private static void book() {
        SnuffMill x = mended();
        due("book", Bench.book(x, " 3 0; 1 9999 ;"), 2);
        due("told(12)", x.told(12), 2);
        due("book with a FAULT", Bench.book(x, "0 1;1"), -9);
        due("it stays", x.told(12), 2);
        due("4 lines", Bench.book(x, "0 0;1 0;2 0;3 0;"), 4);
        due("book(0)", Bench.book(x, ""), 0);
        faulty('b', "4 0;", -8, 0);
        faulty('b', "0 10000;", -8, 2);
        faulty('b', "0 1; 0 1;", -8, 5);
        faulty('b', "0 1;1 1;2 1;3 1;3 1;", -8, 16);
        faulty('b', "0 0;00 99999;", -8, 4);
        faulty('b', "0;", -9, 1);
        faulty('b', "0 1", -9, 3);
        faulty('b', "a 1;", -9, 0);
        Bench.put(x, "0 1;" + " ".repeat(76));
        Bench.wrong("book(61)", () -> x.book(61));
        Bench.wrong("book(-1)", () -> x.book(-1));
        due("book(60)", x.book(60), 1);
    }

    private static void undo() {
        SnuffMill x = mended();
        due("none", x.undo(), -1);
        Bench.work(x, "day;tear 1;grind 0 0;sell 0;");
        Bench.work(x, "sell 1;");
        Bench.work(x, "");
        due("REFUSED by the latest", x.told(10), 0);
        due("one of no STEPS", x.undo(), 2);
        due("one of REFUSED ones", x.undo(), 1);
        due("0 behind undo()", x.told(10), 0);
        due("still there", x.told(7), 15);
        due("undo", x.undo(), 0);
        int[] want = {4, 2, 2, 10, 0, 320, 0, 0, 2, 0, 0};
        for (int what = 0; what < want.length; what++) {
            due("undone: told(" + what + ")", x.told(what), want[what]);
        }
        Bench.jarDue("undone", x, 0, 100, 40, 20, 10, 0);
        due("none is left", x.undo(), -1);
        Bench.work(x, "pour 1 0;");
        due("REFUSED", x.told(10), 1);
        x.undo();
        due("0 behind undo()", x.told(10), 0);
        Bench.work(x, "day");
        due("a FAULT is no WORK", x.undo(), -1);
    }

    private static void tooManyWorks() {
        SnuffMill x = mended();
        for (int i = 1; i <= 16; i++) {
            due("work " + i, Bench.work(x, "day;pour 1 1;"), 1);
        }
        due("a FAULT's place", Bench.law(x, "x"), -9);
        int n = Bench.put(x, "day");
        Bench.wrong("the exception comes first", () -> x.work(21));
        due("its place stays", x.fault(), 0);
        due("the 17th, ahead of its FAULT", x.work(n), -20);
        due("no FAULT", x.fault(), -1);
        due("the TAPE is empty", x.count(1), 0);
        due("nothing is done", x.told(4), 16);
        due("told(10) stays", x.told(10), 1);
        due("undo", x.undo(), 15);
        due("there is room again", Bench.work(x, "day;"), 1);
        due("full again", Bench.work(x, "day;"), -20);
        for (int i = 15; i >= 0; i--) {
            due("undo", x.undo(), i);
            due("DAY", x.told(4), i);
        }
    }

    // ---- promises 10 to 19 ----

    private static void told() {
        SnuffMill x = mended();
        Bench.work(x, "tear 1;day;grind 0 0;sell 0;pour 1 0;");
        Bench.stack(x, "0;");
        Bench.book(x, "0 1;1 2;");
        int[] want = {4, 2, 2, 10, 1, 150, 12, 15, 3, 2, 1, 1, 2};
        for (int what = 0; what < want.length; what++) {
            due("told(" + what + ")", x.told(what), want[what]);
        }
        Bench.wrong("told(-1)", () -> x.told(-1));
        Bench.wrong("told(13)", () -> x.told(13));
    }

    private static void jarStoneSieve() {
        SnuffMill x = mended();
        Bench.work(x, "tear 0;day;");
        int[] want = {5, 0, 0, 95, 100, 1, 50};
        for (int what = 0; what < want.length; what++) {
            due("jar(2, " + what + ")", x.jar(2, what), want[what]);
        }
        due("FINE of an empty one", x.jar(1, 6), 0);
        due("FINE, cut", x.jar(0, 6), 588);
        Bench.missing("jar(4, 9)", () -> x.jar(4, 9));
        Bench.missing("jar(-1, 0)", () -> x.jar(-1, 0));
        Bench.wrong("jar(0, 7)", () -> x.jar(0, 7));
        Bench.wrong("jar(0, -1)", () -> x.jar(0, -1));
        due("P", x.stone(0, 0), 5);
        due("Q", x.stone(0, 1), 10);
        due("R", x.stone(0, 2), 2);
        due("R of 1", x.stone(1, 2), 0);
        Bench.missing("stone(2, 9)", () -> x.stone(2, 9));
        Bench.missing("stone(-1, 0)", () -> x.stone(-1, 0));
        Bench.wrong("stone(0, 3)", () -> x.stone(0, 3));
        Bench.wrong("stone(0, -1)", () -> x.stone(0, -1));
        due("MESH", x.sieve(1, 0), 1);
        due("torn", x.sieve(0, 1), 1);
        due("not torn", x.sieve(1, 1), 0);
        Bench.missing("sieve(2, 9)", () -> x.sieve(2, 9));
        Bench.missing("sieve(-1, 0)", () -> x.sieve(-1, 0));
        Bench.wrong("sieve(0, 2)", () -> x.sieve(0, 2));
        Bench.wrong("sieve(0, -1)", () -> x.sieve(0, -1));
    }

    private static void sneezeAndWould() {
        SnuffMill x = mended();
        due("sneeze(0)", x.sneeze(0), 9000 / 171);
        due("sneeze(1)", x.sneeze(1), 0);
        Bench.law(x, "20 + jar");
        due("of an empty one, too", x.sneeze(1), 21);
        Bench.missing("sneeze(4)", () -> x.sneeze(4));
        Bench.missing("sneeze(-1)", () -> x.sneeze(-1));
        Bench.law(x, "fine + 2*mid + 3*coarse + 4*husk + 5*age + 6*day + 7*jar - all");
        due("would", x.would(1, 1, 1, 1, 1, 1, 1), 1 + 2 + 3 + 4 + 5 + 6 + 7 - 4);
        due("would", x.would(2, 0, 0, 0, 0, 0, 5), 35);
        Bench.law(x, "all / 404");
        due("all", x.would(9999, 9999, 9999, 9999, 400, 400, 5), 99);
        due("all", x.would(9999, 9999, 9999, 0, 0, 0, 0), 29997 / 404);
        for (int i = 0; i < 7; i++) {
            int[] a = new int[7];
            int most = i < 4 ? 9999 : i < 6 ? 400 : 5;
            a[i] = most;
            due("would, " + i + " at most", Bench.answer(() -> x.would(a[0], a[1], a[2], a[3], a[4], a[5], a[6])), i < 4 ? 24 : 0);
            int[] b = new int[7];
            b[i] = most + 1;
            Bench.wrong("would, " + i + " too great", () -> x.would(b[0], b[1], b[2], b[3], b[4], b[5], b[6]));
            int[] c = new int[7];
            c[i] = -1;
            Bench.wrong("would, " + i + " below 0", () -> x.would(c[0], c[1], c[2], c[3], c[4], c[5], c[6]));
        }
    }

    private static void ground() {
        SnuffMill x = mended();
        int[] want = {108, 40, 2, 8, 12};
        for (int what = 0; what < 5; what++) {
            due("ground(0, 0, " + what + ")", x.ground(0, 0, what), want[what]);
            due("of an empty one", x.ground(0, 1, what), 0);
        }
        due("by a stone that breaks nothing", x.ground(1, 0, 4), 10);
        Bench.jarDue("nothing stays changed", x, 0, 100, 40, 20, 10, 0);
        due("nothing is LOST", x.told(6), 0);
        Bench.work(x, "grind 0 0;");
        due("LOST by this one alone", x.ground(1, 0, 4), 10);
        Bench.missing("ground(2, 0, 9)", () -> x.ground(2, 0, 9));
        Bench.missing("ground(0, 4, 9)", () -> x.ground(0, 4, 9));
        Bench.missing("ground(-1, 0, 0)", () -> x.ground(-1, 0, 0));
        Bench.wrong("ground(0, 0, 5)", () -> x.ground(0, 0, 5));
        Bench.wrong("ground(0, 0, -1)", () -> x.ground(0, 0, -1));
    }

    private static void falls() {
        SnuffMill x = mended();
        Bench.work(x, "tear 1;");
        int[] whole = {100, 0, 0, 0, 100};
        int[] torn = {100, 40, 10, 0, 150};
        for (int what = 0; what < 5; what++) {
            due("falls(0, 0, " + what + ")", x.falls(0, 0, what), whole[what]);
            due("falls(1, 0, " + what + ")", x.falls(1, 0, what), torn[what]);
        }
        Bench.missing("falls(2, 0, 9)", () -> x.falls(2, 0, 9));
        Bench.missing("falls(0, 4, 9)", () -> x.falls(0, 4, 9));
        Bench.missing("falls(0, -1, 9)", () -> x.falls(0, -1, 9));
        Bench.wrong("falls(0, 0, 5)", () -> x.falls(0, 0, 5));
        Bench.wrong("falls(0, 0, -1)", () -> x.falls(0, 0, -1));
    }

    private static void milled() {
        SnuffMill x = mended();
        due("at once", x.milled(0, 0, 588), 0);
        // 108 of 158 are 683
        due("one", x.milled(0, 0, 589), 1);
        due("one", x.milled(0, 0, 683), 1);
        due("two", x.milled(0, 0, 684), 2);
        due("an empty one", x.milled(1, 0, 0), -1);
        due("n 0", x.milled(3, 0, 0), 0);
        due("never", x.milled(3, 1, 1), -1);
        SnuffMill y = Bench.of("jar 50 50 0 0;stone 1 0 0;stone 0 0 0;dust 0;");
        // by 1 of 10, cut, 50 to 9: down to 9 GRAMS of GRAIN 1, from there nothing falls
        due("slowly", y.milled(0, 0, 910), 20);
        due("stuck", y.milled(0, 0, 911), -1);
        SnuffMill z = Bench.of("jar 0 999 0 0;stone 0 0 0;");
        due("dust alone", z.milled(0, 0, 1), -1);
        SnuffMill w = Bench.of("jar 0 0 999 0;stone 10 1 0;dust 0;");
        due("all of it", w.milled(0, 0, 990), milledByHand(990));
        due("never all of it", w.milled(0, 0, 1000), -1);
        Bench.missing("milled(4, 0, -1)", () -> x.milled(4, 0, -1));
        Bench.missing("milled(0, 2, -1)", () -> x.milled(0, 2, -1));
        Bench.missing("milled(-1, 0, 0)", () -> x.milled(-1, 0, 0));
        Bench.wrong("milled(0, 0, -1)", () -> x.milled(0, 0, -1));
        Bench.wrong("milled(0, 0, 1001)", () -> x.milled(0, 0, 1001));
        due("nothing stays changed", x.told(6), 0);
    }

    private static int milledByHand(int n) {
        int fine = 0;
        int mid = 0;
        int coarse = 999;
        for (int times = 0; times <= 99; times++) {
            if (1000 * fine / 999 >= n) {
                return times;
            }
            fine += mid;
            mid = coarse / 10;
            coarse -= mid;
        }
        return -1;
    }

    private static void stays() {
        SnuffMill x = mended();
        due("no STACK", x.stays(0, 0), 170);
        due("no STACK", x.stays(0, 1), -1);
        Bench.stack(x, "1;0;");
        int[] want = {30, 40, 100, -1};
        for (int k = 0; k < 4; k++) {
            due("stays(0, " + k + ")", x.stays(0, k), want[k]);
        }
        due("of an empty one", x.stays(1, 2), 0);
        due("k far beyond", x.stays(0, MAX_VALUE), -1);
        Bench.work(x, "tear 0;tear 1;");
        Bench.stack(x, "1;1;0;");
        // 20 and 10 husk: 10 and 10 stay, then 5, then 40 mid: 20 and 5 coarse
        int[] torn = {20, 5, 25, 120, -1};
        for (int k = 0; k < 5; k++) {
            due("torn: stays(0, " + k + ")", x.stays(0, k), torn[k]);
        }
        Bench.missing("stays(4, -1)", () -> x.stays(4, -1));
        Bench.missing("stays(-1, 0)", () -> x.stays(-1, 0));
        Bench.wrong("stays(0, -1)", () -> x.stays(0, -1));
        Bench.jarDue("nothing stays changed", x, 0, 100, 40, 20, 10, 0);
    }

    // ---- promises 20 to 28 ----

    private static void halves() {
        SnuffMill x = Bench.of("jar 8 0 0 0;jar 7 0 0 0;jar 0 6 0 0;jar 0 0 5 0;jar 0 0 0 4;jar 0 0 0 0;");
        // 8 7 6 5 4: 15 and 15: 8 and 7 (bits 3)
        due("even", x.halves(31, 0), 0);
        due("the lot", x.halves(31, 1), 3);
        // without 0: 7 6 5 4: 7 and 4 (bits 18), the other 6 and 5
        due("even", x.halves(30, 0), 0);
        due("the lot with the first", x.halves(30, 1), 18);
        due("an empty one, too: the least bits", x.halves(63, 1), 3);
        due("an empty one and one", x.halves(33, 0), 8);
        due("the least bits", x.halves(33, 1), 1);
        due("an empty one alone", x.halves(32, 1), 32);
        due("an empty one alone", x.halves(32, 0), 0);
        due("one", x.halves(2, 0), 7);
        due("one", x.halves(2, 1), 2);
        due("none", x.halves(0, 0), 0);
        due("none", x.halves(0, 1), 0);
        // 8 7 4: 8 and 11 by 3; 12 and 7 by 5
        due("odd", x.halves(19, 0), 3);
        due("odd", x.halves(19, 1), 1);
        Bench.wrong("halves(64, 0)", () -> x.halves(64, 0));
        Bench.wrong("halves(-1, 0)", () -> x.halves(-1, 0));
        Bench.wrong("halves(MIN, 0)", () -> x.halves(MIN_VALUE, 0));
        Bench.wrong("halves(0, 2)", () -> x.halves(0, 2));
        Bench.wrong("halves(0, -1)", () -> x.halves(0, -1));
        SnuffMill y = mended();
        Bench.wrong("halves(16, 0)", () -> y.halves(16, 0));
        due("all", y.halves(15, 0), 20);
    }

    private static void box() {
        SnuffMill x = Bench.of("jar 10 0 0 0;jar 6 0 0 0;jar 0 4 0 0;jar 3 3 0 0;jar 0 0 0 0;jar 4 2 0 0;");
        Bench.law(x, "all * 2 + jar % 2 * 0");
        due("all fits", x.box(63, 99999, 0), 64);
        due("which", x.box(63, 99999, 2), 47);
        // 10 GRAMS: 20 by 0, by 1 and 2 (6), by 2 and 3, by 2 and 5
        due("10: SNEEZE", x.box(63, 10, 0), 20);
        due("10: GRAMS", x.box(63, 10, 1), 10);
        due("10: the least bits", x.box(63, 10, 2), 1);
        due("without 0", x.box(62, 10, 2), 6);
        due("told ones alone", x.box(12, 99, 2), 12);
        Bench.law(x, "10");
        due("most of them", x.box(63, 16, 0), 30);
        due("of least GRAMS", x.box(63, 16, 1), 16);
        due("of the least bits", x.box(63, 16, 2), 14);
        due("two", x.box(63, 15, 2), 6);
        Bench.law(x, "0");
        due("of SNEEZE 0 none", x.box(63, 99999, 2), 0);
        due("none fits", x.box(63, 3, 2), 0);
        due("none told", x.box(0, 0, 1), 0);
        Bench.law(x, "10 + fine");
        // 1: 16 by 6, 3: 13 by 6, 5: 14 by 6, 2: 10 by 4
        due("n 6", x.box(63, 6, 2), 2);
        due("n 4", x.box(63, 4, 2), 4);
        due("just so much", x.box(63, 12, 0), 30);
        due("just so much", x.box(63, 12, 2), 34);
        Bench.wrong("box(64, 0, 0)", () -> x.box(64, 0, 0));
        Bench.wrong("box(-1, 0, 0)", () -> x.box(-1, 0, 0));
        Bench.wrong("box(0, -1, 0)", () -> x.box(0, -1, 0));
        Bench.wrong("box(0, 100000, 0)", () -> x.box(0, 100000, 0));
        Bench.wrong("box(0, 0, 3)", () -> x.box(0, 0, 3));
        Bench.wrong("box(0, 0, -1)", () -> x.box(0, 0, -1));
    }

    private static void fitsAndLook() {
        SnuffMill x = Bench.of("jar 5 4 0 0;jar 0 0 0 0;jar 5 0 8 0;jar 5 4 8 2;sieve 0;sieve 1;sieve 2;");
        due("no BOOK: all pairs", x.fits(0), 9);
        due("the first", x.fits(1), 0);
        // GRAIN 0 falls alike of all; 1: 0 (SIEVE 0: three; JAR 2: two more) or 4; 2: 0 six and 1, or 8 two; 3: 0
        due("look: GRAIN", x.look(0), 1);
        due("look: at the worst", x.look(1), 5);
        Bench.book(x, "1 4;");
        due("1 4", x.fits(0), 4);
        due("1 4: the first", x.fits(1), 10);
        // of 10, 13, 20, 23 GRAIN 2: 0 0 0 8; GRAIN 0: all 5; 3: all 0
        due("look: GRAIN", x.look(0), 2);
        due("look: at the worst", x.look(1), 3);
        Bench.book(x, "2 8;0 5;");
        due("both lines", x.fits(0), 2);
        due("the first", x.fits(1), 22);
        due("look", x.look(0), 1);
        due("look", x.look(1), 1);
        Bench.book(x, "3 1;");
        due("none", x.fits(0), 0);
        due("torn", Bench.work(x, "tear 2;"), 1);
        due("half falls", x.fits(1), 23);
        Bench.book(x, "3 2;1 0;");
        due("none: how many", x.fits(0), 0);
        due("none: NONE", x.fits(1), -1);
        due("none: the first GRAIN in no line", x.look(0), 0);
        due("none: 0 at the worst", x.look(1), 0);
        Bench.book(x, "3 0;1 0;0 0;2 0;");
        due("all in lines", x.look(0), -1);
        due("all in lines", x.look(1), -1);
        Bench.wrong("fits(2)", () -> x.fits(2));
        Bench.wrong("fits(-1)", () -> x.fits(-1));
        Bench.wrong("look(2)", () -> x.look(2));
        Bench.wrong("look(-1)", () -> x.look(-1));
    }

    private static void fit() {
        SnuffMill x = new SnuffMill();
        fitDue(x, 0, 0, 9, 1, 1);
        fitDue(x, 0, 1, 9, 0, 1);
        fitDue(x, 1, 1, 16, 1, 1);
        fitDue(x, 1, 1, 0, 0, 1);
        fitDue(x, 5, 0, 0, 1, 1);
        fitDue(x, 2, 1, 8, 3, 4);
        fitDue(x, 2, 2, 8, 1, 4);
        fitDue(x, 3, 2, 4, 5, 32);
        fitDue(x, 1, 1, 5, 5, 16);
        fitDue(x, 12, 12, 1, 1, 1L << 48);
        fitDue(x, 12, 13, 16, 0, 1);
        // 1 less (15 / 16) ^ 12
        fitDue(x, 12, 1, 1, (1L << 48) - 129746337890625L, 1L << 48);
        fitDue(x, 12, 6, 8, 2510 / 2, 4096 / 2);
        int[][] wrong = {{13, 0, 0, 0}, {-1, 0, 0, 0}, {0, 14, 0, 0}, {0, -1, 0, 0}, {0, 0, 17, 0}, {0, 0, -1, 0},
            {0, 0, 0, 2}, {0, 0, 0, -1}};
        for (int[] w : wrong) {
            Bench.wrong("fit", () -> x.fit(w[0], w[1], w[2], w[3]));
        }
    }

    private static void fitDue(SnuffMill x, int n, int k, int q, long above, long below) {
        due("fit(" + n + ", " + k + ", " + q + ", 0)", x.fit(n, k, q, 0), above);
        due("fit(" + n + ", " + k + ", " + q + ", 1)", x.fit(n, k, q, 1), below);
    }

    private static void shops() {
        SnuffMill x = new SnuffMill();
        shopsDue(x, 9, 8, 2, 1, 17);
        shopsDue(x, 9, 4, 3, 0, 8);
        shopsDue(x, 99, 0, 1, 0, 98);
        shopsDue(x, 0, 99, 1, 11, 98);
        shopsDue(x, 0, 0, 4, 0, 0);
        shopsDue(x, 1, 1, 2, 1, 2);
        shopsDue(x, 4, 9, 3, 1, 13);
        shopsDue(x, 5, 3, 2, 1, 8);
        int[][] wrong = {{100, 0, 0}, {-1, 0, 0}, {0, 100, 0}, {0, -1, 0}, {0, 0, 3}, {0, 0, -1}};
        for (int[] w : wrong) {
            Bench.wrong("shops", () -> x.shops(w[0], w[1], w[2]));
        }
    }

    private static void shopsDue(SnuffMill x, int v, int w, int many, int first, int together) {
        due("shops(" + v + ", " + w + ", 0)", x.shops(v, w, 0), many);
        due("shops(" + v + ", " + w + ", 1)", x.shops(v, w, 1), first);
        due("shops(" + v + ", " + w + ", 2)", x.shops(v, w, 2), together);
    }

    private static void shelf() {
        SnuffMill x = mended();
        // 170, 0, 100, 50
        due("all, if they are no more", x.shelf(0, 13, 320), 170);
        due("one less", x.shelf(0, 13, 319), 169);
        due("all", x.shelf(2, 13, 319), 100);
        due("levelled", x.shelf(0, 13, 200), 75);
        due("levelled", x.shelf(2, 13, 200), 75);
        due("no more than that", x.shelf(3, 13, 200), 50);
        due("the rest is not given", x.shelf(0, 13, 152), 51);
        due("the rest is not given", x.shelf(2, 13, 152), 51);
        due("the rest is not given", x.shelf(0, 13, 2), 0);
        due("n 0", x.shelf(0, 13, 0), 0);
        due("not told", x.shelf(2, 9, 99999), 0);
        due("none told", x.shelf(2, 0, 99999), 0);
        due("empty", x.shelf(1, 15, 99999), 0);
        due("much", x.shelf(0, 15, 99999), 170);
        Bench.missing("shelf(4, 99, -1)", () -> x.shelf(4, 99, -1));
        Bench.missing("shelf(-1, 0, 0)", () -> x.shelf(-1, 0, 0));
        Bench.wrong("shelf(0, 16, 0)", () -> x.shelf(0, 16, 0));
        Bench.wrong("shelf(0, -1, 0)", () -> x.shelf(0, -1, 0));
        Bench.wrong("shelf(0, 0, -1)", () -> x.shelf(0, 0, -1));
        Bench.wrong("shelf(0, 0, 100000)", () -> x.shelf(0, 0, 100000));
        SnuffMill y = Bench.of("jar 999 999 999 999;jar 999 999 999 999;jar 999 999 9 0;");
        Bench.work(y, "pour 1 0;pour 2 0;");
        due("a full JAR", y.shelf(0, 1, 99999), 9999);
        due("a full JAR", y.shelf(0, 1, 9998), 9998);
    }

    private static void sharpestAndRipe() {
        SnuffMill x = mended();
        due("sharpest(0)", x.sharpest(0), 0);
        due("sharpest(1)", x.sharpest(1), 52);
        due("ripe()", x.ripe(), 1);
        Bench.law(x, "50 - jar % 2");
        due("of alike ones the first", x.sharpest(0), 0);
        due("ripe()", x.ripe(), 5);
        Bench.law(x, "90 - (jar - 1) * (jar - 1)");
        due("no empty one", x.sharpest(0), 0);
        due("no empty one", x.ripe(), 13);
        Bench.law(x, "0");
        due("SNEEZE 0", x.sharpest(0), 0);
        due("SNEEZE 0", x.sharpest(1), 0);
        Bench.law(x, "jar * 20");
        due("the most", x.sharpest(0), 3);
        due("the most", x.sharpest(1), 60);
        due("ripe()", x.ripe(), 8);
        Bench.law(x, "99");
        Bench.work(x, "sell 0;sell 2;sell 3;");
        due("all empty", x.sharpest(0), -1);
        due("all empty", x.sharpest(1), -1);
        due("all empty", x.ripe(), 0);
        Bench.wrong("sharpest(2)", () -> x.sharpest(2));
        Bench.wrong("sharpest(-1)", () -> x.sharpest(-1));
    }

    // ---- promises 29 to 38 ----

    private static void blendAndRipens() {
        SnuffMill x = mended();
        // 105 of 270
        due("blend(2, 0)", x.blend(2, 0), 105 * 90 / 271);
        due("blend(0, 1)", x.blend(0, 1), 52);
        due("both are one", x.blend(0, 0), -1);
        due("empty", x.blend(1, 0), -1);
        Bench.work(x, "day;day;");
        Bench.law(x, "age * 10 + jar");
        due("as old as the older one", x.blend(0, 1), 21);
        due("nothing stays changed", x.jar(0, 4), 170);
        Bench.missing("blend(4, 0)", () -> x.blend(4, 0));
        Bench.missing("blend(0, 4)", () -> x.blend(0, 4));
        Bench.missing("blend(-1, 0)", () -> x.blend(-1, 0));
        SnuffMill y = Bench.of("jar 999 999 999 999;jar 999 999 999 999;jar 999 999 9 0;jar 1 0 0 0;");
        Bench.work(y, "pour 1 0;");
        due("just 9,999", y.blend(2, 0), 2997 * 90 / 10000);
        Bench.work(y, "pour 2 0;");
        due("more than 9,999", y.blend(3, 0), -1);
        Bench.law(x, "age + day");
        due("ripens", x.ripens(0), 23);
        due("an empty one", x.ripens(1), -1);
        Bench.law(x, "49 + day / 101");
        due("99 DAYS", x.ripens(0), 99);
        Bench.law(x, "49 + day / 102");
        due("100 DAYS", x.ripens(0), -1);
        Bench.law(x, "50");
        due("now", x.ripens(0), 0);
        due("nothing stays changed", x.told(4), 2);
        Bench.missing("ripens(4)", () -> x.ripens(4));
        Bench.missing("ripens(-1)", () -> x.ripens(-1));
        for (int i = 0; i < 2; i++) {
            Bench.work(x, "again 40[day;day;day;day;];");
        }
        Bench.work(x, "again 32[day;];");
        due("DAY", x.told(4), 2 + 160 + 160 + 32);
        Bench.law(x, "49 + day / 400");
        due("on the last DAY", x.ripens(0), 46);
        Bench.law(x, "49 + day / 401");
        due("no DAY comes behind the last", x.ripens(0), -1);
    }

    private static void evenSpaceOldest() {
        SnuffMill x = mended();
        due("even()", x.even(), 8);
        due("oldest(0)", x.oldest(0), 0);
        due("oldest(1)", x.oldest(1), 0);
        due("space", x.space(0), 9829);
        due("space", x.space(1), 9999);
        Bench.missing("space(4)", () -> x.space(4));
        Bench.missing("space(-1)", () -> x.space(-1));
        Bench.work(x, "day;sell 0;scoop 2 1 5;day;");
        due("even()", x.even(), 14);
        due("of alike ones the first", x.oldest(0), 1);
        due("how old", x.oldest(1), 2);
        Bench.law(x, "99");
        Bench.work(x, "sell 1;scoop 2 1 1;sell 2;day;scoop 3 0 1;");
        due("as old as what came", x.oldest(0), 0);
        Bench.work(x, "sell 0;sell 1;sell 3;");
        due("all empty", x.oldest(0), -1);
        due("all empty", x.oldest(1), -1);
        due("all empty", x.even(), 0);
        Bench.wrong("oldest(2)", () -> x.oldest(2));
        Bench.wrong("oldest(-1)", () -> x.oldest(-1));
        SnuffMill y = Bench.of("jar 60 1 0 0;jar 60 0 0 0;jar 0 0 0 9;");
        Bench.work(y, "day;day;sell 0;scoop 1 0 1;day;");
        due("alike", y.oldest(0), 0);
        due("even", y.even(), 7);
    }

    private static void passesAmountWorth() {
        SnuffMill x = Bench.of("jar 5 0 0 0;jar 0 0 0 0;jar 1 9 0 0;jar 0 9 1 0;jar 0 0 0 7;sieve 0;sieve 1;");
        due("passes(0)", x.passes(0), 1);
        due("passes(1)", x.passes(1), 5);
        Bench.work(x, "tear 0;tear 1;");
        due("half is not all", x.passes(1), 5);
        Bench.missing("passes(2)", () -> x.passes(2));
        Bench.missing("passes(-1)", () -> x.passes(-1));
        int[] sums = {6, 18, 1, 7};
        int[] first = {0, 2, 3, 4};
        for (int grain = 0; grain < 4; grain++) {
            due("amount(" + grain + ", 0)", x.amount(grain, 0), sums[grain]);
            due("amount(" + grain + ", 1)", x.amount(grain, 1), first[grain]);
        }
        Bench.wrong("amount(4, 0)", () -> x.amount(4, 0));
        Bench.wrong("amount(-1, 0)", () -> x.amount(-1, 0));
        Bench.wrong("amount(0, 2)", () -> x.amount(0, 2));
        Bench.wrong("amount(0, -1)", () -> x.amount(0, -1));
        Bench.mill(x, "jar 19 0 0 0;jar 19 0 0 0;jar 0 0 19 0;");
        due("none has any", x.amount(1, 1), -1);
        due("none has any", x.amount(1, 0), 0);
        due("alike", x.amount(0, 1), 0);
        due("worth(), each cut", x.worth(), 2);
        Bench.law(x, "50");
        due("worth()", x.worth(), 3);
        Bench.law(x, "49");
        due("worth()", x.worth(), 0);
    }

    private static void likeAndThrough() {
        SnuffMill x = Bench.of("jar 5 5 0 0;jar 0 0 0 0;jar 6 4 0 0;jar 4 6 0 0;jar 0 9 0 0;jar 10 0 0 0;sieve 0;sieve 2;");
        due("of alike ones the first", x.like(0), 2);
        due("like(2)", x.like(2), 0);
        due("of an empty one", x.like(1), 4);
        due("like(4)", x.like(4), 3);
        due("like(5)", x.like(5), 2);
        Bench.missing("like(6)", () -> x.like(6));
        Bench.missing("like(-1)", () -> x.like(-1));
        due("through(0, 0)", x.through(0, 0), 25);
        due("through(0, 1)", x.through(0, 1), 24);
        due("through(1, 1)", x.through(1, 1), 0);
        Bench.work(x, "tear 0;");
        // half of 5, 4, 6, 9, each cut
        due("torn: through(0, 0)", x.through(0, 0), 25 + 2 + 2 + 3 + 4);
        due("torn: through(0, 1)", x.through(0, 1), 24 - 11);
        Bench.missing("through(2, 9)", () -> x.through(2, 9));
        Bench.missing("through(-1, 0)", () -> x.through(-1, 0));
        Bench.wrong("through(0, 2)", () -> x.through(0, 2));
        Bench.wrong("through(0, -1)", () -> x.through(0, -1));
        SnuffMill y = Bench.of("jar 5 5 0 0;jar 0 0 0 0;");
        due("none other", y.like(0), -1);
        due("the other", y.like(1), 0);
    }

    // ---- promises 39 to 44 ----

    private static void yearAndSpan() {
        SnuffMill x = Bench.of("jar 0 100 0 0;stone 10 0 0;dust 10;");
        // one day: ground to 100, 90 are left, SNEEZE 8100 / 91: sold
        due("MONEY", x.year(7, 0, 1, 0), 9);
        due("GRAMS", x.year(7, 0, 1, 1), 0);
        due("LOST", x.year(7, 0, 1, 2), 10);
        due("empty", x.year(7, 0, 1, 3), 1);
        due("nothing stays changed", x.told(5), 100);
        due("nothing stays changed", x.told(4), 0);
        Bench.work(x, "grind 0 0;sell 0;");
        due("made in it", x.year(7, 0, 48, 0), 0);
        due("LOST in it", x.year(7, 0, 48, 2), 0);
        // DRAWS by SEED 1: 16838, 5758, 10113, 17515, 31051, 5627, ..
        SnuffMill y = Bench.of("jar 10 0 0 0;jar 20 0 0 0;jar 30 0 0 0;");
        due("16838 by 3 leaves 2", y.year(1, 0, 1, 3), 4);
        due("5758 by 3 leaves 1", y.year(1, 0, 2, 3), 6);
        due("MONEY", y.year(1, 0, 2, 0), 5);
        due("10113 by 3 leaves 0", y.year(1, 0, 3, 3), 7);
        due("GRAMS", y.year(1, 0, 1, 1), 30);
        SnuffMill z = Bench.of("jar 0 0 0 10;jar 0 0 20 0;jar 0 30 0 0;sieve 0;");
        // S 16838, J 5758 by 3: 1; 10113 by 16: 1; sell 17515 by 3: 1, REFUSED
        due("1 is below 2: all of JAR 1 stays, in JAR 0", z.year(1, 2, 1, 3), 2);
        due("1 is not below 1", z.year(1, 1, 1, 3), 0);
        Bench.law(z, "99 * (day % 2)");
        // on the second day: 31051, 5627, 23010, then 7419 by 3 leaves 0
        due("days go on: MONEY", z.year(1, 0, 1, 0), 0);
        due("days go on: MONEY", z.year(1, 0, 2, 0), 1);
        due("days go on: empty", z.year(1, 0, 2, 3), 1);
        for (int i = 0; i < 3; i++) {
            Bench.work(z, "again 40[day;day;day;day;];");
        }
        due("DAY", z.told(4), 400);
        Bench.law(z, "day - 400 + 48");
        due("beyond 400, too", z.year(1, 0, 2, 0), 0);
        // on the third day: 16212, 4086, 2749, then 12767 by 3 leaves 2
        due("beyond 400, too", z.year(1, 0, 3, 0), 3);
        due("two JARS: no sifting", Bench.of("jar 5 0 0 0;jar 0 0 0 5;sieve 0;").year(1, 16, 1, 3), 1);
        int[][] wrong = {{1, 17, 1, 0}, {1, -1, 1, 0}, {1, 0, 0, 0}, {1, 0, 49, 0}, {1, 0, 1, 4}, {1, 0, 1, -1}};
        for (int[] w : wrong) {
            Bench.wrong("year", () -> x.year(w[0], w[1], w[2], w[3]));
        }
        span(y);
    }

    private static void span(SnuffMill y) {
        int least = MAX_VALUE;
        int most = 0;
        int empty = 0;
        for (int seed = 5; seed < 15; seed++) {
            least = Math.min(least, y.year(seed, 3, 2, 0));
            most = Math.max(most, y.year(seed, 3, 2, 0));
            empty += y.year(seed, 3, 2, 3) >> 1 & 1;
        }
        due("the seeds differ", least < most ? 1 : 0, 1);
        due("the least", y.span(5, 10, 3, 2, 0, 0), least);
        due("the most", y.span(5, 10, 3, 2, 1, 0), most);
        due("by how many", y.span(5, 10, 3, 2, 2, 1), empty);
        due("one", y.span(1, 1, 0, 1, 1, 0), 3);
        due("seeds wrap", y.span(MAX_VALUE, 2, 0, 1, 0, 2), Math.min(y.year(MAX_VALUE, 0, 1, 0), y.year(MIN_VALUE, 0, 1, 0)));
        due("nothing stays changed", y.told(5), 60);
        int[][] wrong = {{0, 0, 1, 0, 0}, {11, 0, 1, 0, 0}, {1, -1, 1, 0, 0}, {1, 17, 1, 0, 0}, {1, 0, 0, 0, 0},
            {1, 0, 49, 0, 0}, {1, 0, 1, 3, 0}, {1, 0, 1, -1, 0}, {1, 0, 1, 0, 3}, {1, 0, 1, 1, -1}};
        for (int[] w : wrong) {
            Bench.wrong("span", () -> y.span(1, w[0], w[1], w[2], w[3], w[4]));
        }
    }

    private static void imageAndRestore() {
        SnuffMill x = mended();
        due("none", x.restore(), -1);
        Bench.work(x, "day;tear 0;");
        due("image", x.image(), 1);
        Bench.work(x, "grind 0 0;sell 0;pour 1 1;");
        due("image", x.image(), 2);
        x.undo();
        x.undo();
        due("image", x.image(), 3);
        due("there are 3", x.image(), -1);
        Bench.law(x, "7");
        Bench.stack(x, "0;");
        Bench.book(x, "0 1;");
        Bench.put(x, "day;");
        Bench.missing("one missing", () -> x.jar(9, 9));
        due("restore", x.restore(), 2);
        due("no WORKS in it", x.count(2), 0);
        due("DAY", x.told(4), 0);
        due("restore", x.restore(), 1);
        due("WORKS in it", x.count(2), 2);
        due("MONEY", x.told(7), 15);
        due("LOST", x.told(6), 12);
        due("0 behind restore()", x.told(10), 0);
        due("no IMAGE keeps status", x.status(0), 1);
        due("nor the LAW", x.sneeze(1), 7);
        due("nor the STACK", x.told(11), 1);
        due("nor the BOOK", x.told(12), 1);
        due("nor the TAPE", x.count(1), 20);
        due("a WORK of the IMAGE", x.undo(), 1);
        due("undone", x.told(7), 0);
        due("undone", x.told(9), 1);
        due("another one", x.undo(), 0);
        due("undone", x.told(9), 0);
        due("restore", x.restore(), 0);
        due("restored", x.told(9), 1);
        due("restored", x.told(4), 1);
        due("WORKS in it", x.count(2), 1);
        x.law(0); // the TAPE is empty then
        Bench.work(x, "pour 1 1;");
        due("none", x.restore(), -1);
        due("nothing is done then", x.told(10), 1);
        for (int i = 2; i < 16; i++) {
            Bench.work(x, "day;");
        }
        due("16", x.count(2), 16);
        x.image();
        x.undo();
        x.restore();
        due("full again", Bench.work(x, "day;"), -20);
    }

    private static void statusAndCount() {
        SnuffMill x = mended();
        Bench.missing("missing", () -> x.sneeze(4));
        Bench.missing("missing ahead of others", () -> x.jar(4, 9));
        Bench.wrong("wrong", () -> x.jar(0, 9));
        Bench.wrong("wrong", () -> x.mill(1));
        Bench.wrong("wrong, counted once", () -> x.box(-1, -1, -1));
        due("status(0)", x.status(0), 2);
        due("status(1)", x.status(1), 3);
        due("status(2)", x.status(2), -1);
        due("status(-1)", x.status(-1), -1);
        x.image();
        Bench.wrong("wrong", () -> x.told(99));
        x.restore();
        x.mill(0);
        due("neither IMAGE nor MILL keeps it", x.status(1), 4);
        due("count(3)", x.count(3), -1);
        due("count(-1)", x.count(-1), -1);
        due("no refusals", x.status(1), 4);
        x.image();
        x.image();
        x.work(0);
        x.feed(0, 0, 0, 0, 0);
        due("count(0)", x.count(0), 2);
        due("count(1)", x.count(1), 20);
        due("count(2)", x.count(2), 1);
    }

    // ---- what shows only behind several calls, or at a bound ----

    private static void manyMills() {
        SnuffMill x = Bench.of(MILL);
        Bench.law(x, "7");
        Bench.stack(x, "0;");
        Bench.book(x, "0 3;");
        Bench.mill(x, "jar 1 1 1 1;");
        Bench.mill(x, "jar 0 0 0 60;sieve 2;");
        int[] want = {1, 0, 1, 5, 0, 60, 0, 0, 0, 0, 0, 0, 0};
        for (int what = 0; what < want.length; what++) {
            due("third mill: told(" + what + ")", x.told(what), want[what]);
        }
        due("no LAW of the first", x.sneeze(0), 0);
        due("no BOOK of the first", x.fits(0), 1);
        due("no BOOK of the first", x.look(0), 0);
        Bench.mill(x, "jar 9 9 9 9;sieve 0;sieve 1;sieve");
        Bench.mill(x, "jar 9 0 0 0;");
        due("nothing of one with a FAULT", x.told(0), 1);
        due("nothing of one with a FAULT", x.told(2), 0);
        Bench.jarDue("the latest", x, 0, 9, 0, 0, 0, 0);
    }

    /** What stands on the TAPE behind the first n bytes is no part of the text. */
    private static void textsEndAtTheirLength() {
        SnuffMill x = mended();
        Bench.put(x, "dust 12;");
        due("a number cut", x.mill(6), -9);
        due("a number cut", x.fault(), 6);
        Bench.put(x, "dust    5;");
        due("blanks cut", x.mill(5), -9);
        due("blanks cut", x.fault(), 5);
        Bench.put(x, "day;");
        due("a word cut", x.work(2), -9);
        due("a word cut", x.fault(), 0);
        Bench.put(x, "day;");
        due("a word at the end", x.work(3), -9);
        due("a word at the end", x.fault(), 3);
        Bench.put(x, "100");
        due("a LAW cut", x.law(2), 1);
        due("a LAW cut", x.sneeze(0), 10);
        Bench.put(x, "1+2");
        due("a LAW cut ahead of a number", x.law(2), -9);
        due("a LAW cut ahead of a number", x.fault(), 2);
        Bench.put(x, "fine+age");
        due("a LAW cut", x.law(4), 1);
        due("a LAW cut", x.sneeze(2), 5);
        Bench.put(x, "0;1;");
        due("a STACK cut", x.stack(2), 1);
        Bench.put(x, "0 1;1 1;");
        due("a BOOK cut", x.book(4), 1);
    }

    private static void longWorks() {
        SnuffMill x = mended();
        due("37 STEPS in 150 bytes", Bench.work(x, "day;".repeat(37)), 37);
        due("36 in an again", Bench.work(x, "again1[" + "day;".repeat(35) + "];"), 35);
        due("six open", Bench.work(x, "again 2[".repeat(6) + "day;" + "];".repeat(6)), 64);
        due("DAY", x.told(4), 37 + 35 + 64);
        due("a long LAW", Bench.law(x, "1+".repeat(74) + "1"), 1);
        due("a long LAW", x.sneeze(0), 75);
        due("a long LAW", Bench.law(x, "1" + "*1".repeat(69) + "+((((4))))"), 1);
        due("a long LAW", x.sneeze(0), 5);
    }

    private static void oneGram() {
        SnuffMill x = Bench.of("jar 0 0 0 0;jar 0 1 0 0;jar 1 0 0 0;sieve 0;");
        due("sharpest", x.sharpest(0), 2);
        due("sharpest", x.sharpest(1), 45);
        due("like", x.like(0), 1);
        due("FINE", x.jar(2, 6), 1000);
        due("passes", x.passes(0), 4);
        due("fits", x.fits(0), 2);
        Bench.book(x, "0 1;");
        due("fits", x.fits(1), 2);
        due("one pair is left", x.look(1), 1);
        Bench.book(x, "0 4;");
        due("a line of GRAIN 0 alone", x.fits(0), 0);
        due("pour", Bench.work(x, "day;pour 2 1;"), 2);
        Bench.jarDue("pour", x, 1, 1, 1, 0, 0, 1);
        Bench.jarDue("pour", x, 2, 0, 0, 0, 0, 0);
        Bench.law(x, "50");
        due("sell", Bench.work(x, "sell 1;day;pour 2 1;"), 2);
        Bench.jarDue("0 old behind a sale", x, 1, 0, 0, 0, 0, 0);
        SnuffMill y = Bench.of("jar 110 0 0 0;");
        due("worth: GRAMS by 10", y.worth(), 11);
        Bench.work(y, "day;sell 0;");
        due("MONEY: GRAMS by 10", y.told(7), 11);
        due("nothing made in it", y.span(1, 10, 0, 48, 1, 0), 0);
        due("nothing made in it", y.span(1, 10, 0, 48, 0, 0), 0);
        due("empty by all", y.span(1, 10, 0, 48, 2, 0), 10);
    }

    private static void manyGrindings() {
        String husks = "jar 0 0 0 999;".repeat(5) + "stone 1 1 1;";
        String together = "pour 1 0;pour 2 0;pour 3 0;pour 4 0;";
        SnuffMill x = Bench.of(husks + "dust 0;");
        Bench.work(x, together);
        due("99 grindings", x.milled(0, 0, 994), 99);
        due("98 are enough", x.milled(0, 0, 993) <= 98 ? 1 : 0, 1);
        SnuffMill y = Bench.of("jar 0 0 0 999;".repeat(6) + "stone 1 1 1;dust 1;");
        Bench.work(y, together + "pour 5 0;");
        due("100 are too many", y.milled(0, 0, 990), -1);
        Bench.work(y, "grind 0 0;");
        due("one less", y.milled(0, 0, 990), 99);
    }

    private static void worksOfImages() {
        SnuffMill x = mended();
        Bench.work(x, "day;");
        Bench.work(x, "day;day;");
        x.image();
        x.undo();
        x.undo();
        Bench.work(x, "tear 0;");
        Bench.work(x, "tear 1;");
        Bench.work(x, "pour 1 1;");
        due("REFUSED", x.told(10), 1);
        due("restore", x.restore(), 0);
        due("0 behind restore()", x.told(10), 0);
        due("DAY", x.told(4), 3);
        due("its own WORKS", x.undo(), 1);
        due("DAY", x.told(4), 1);
        due("whole", x.told(9), 0);
        due("its own WORKS", x.undo(), 0);
        due("DAY", x.told(4), 0);
        SnuffMill y = mended();
        for (int i = 1; i <= 16; i++) {
            Bench.work(y, "day;");
            if (i == 14 || i == 15) {
                y.image();
            }
        }
        y.image();
        for (int i = 16; i >= 14; i--) {
            due("IMAGE of " + i + " WORKS", y.restore(), i - 14);
            for (int left = i - 1; left >= 0; left--) {
                due("undo", y.undo(), left);
                due("DAY", y.told(4), left);
            }
        }
    }

    private static void sixJars() {
        SnuffMill x = Bench.of("jar 90 0 0 0;jar 0 90 0 0;jar 0 0 90 0;jar 0 0 0 90;jar 0 0 0 90;jar 90 0 0 9;sieve 0;stone 1 1 1;");
        Bench.work(x, "again 30[day;];");
        due("told(5)", x.told(5), 549);
        due("told(8)", x.told(8), 0);
        due("sharpest(0)", x.sharpest(0), 0);
        due("ripe()", x.ripe(), 33);
        due("worth()", x.worth(), 18);
        due("even()", x.even(), 31);
        due("oldest(1)", x.oldest(1), 30);
        due("amount(0, 0)", x.amount(0, 0), 180);
        due("amount(3, 1)", x.amount(3, 1), 3);
        due("like(5)", x.like(5), 0);
        due("passes(0)", x.passes(0), 1);
        due("through(0, 0)", x.through(0, 0), 180);
        due("through(0, 1)", x.through(0, 1), 369);
        due("fits(0)", x.fits(0), 6);
        due("look(0)", x.look(0), 0);
        due("look(1)", x.look(1), 4);
        due("halves(63, 0)", x.halves(63, 0), 9);
        due("halves(63, 1)", x.halves(63, 1), 7);
        due("box(63, 189, 2)", x.box(63, 189, 2), 33);
        due("shelf(5, 63, 549)", x.shelf(5, 63, 549), 99);
        due("shelf(5, 63, 300)", x.shelf(5, 63, 300), 50);
        Bench.missing("sneeze(6)", () -> x.sneeze(6));
        Bench.wrong("span, JAR 6", () -> x.span(3, 10, 16, 48, 2, 6));
    }
}
