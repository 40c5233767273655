/** The texts and their FAULTS: the document's words that name a boundary case, each with a test of its own. */
public final class TextEdgesTest {
    private static final String MILL =
        "jar 100 40 20 10;jar 0 0 0 0;jar 5 0 0 95;jar 0 0 50 0;stone 5 10 2;stone 0 0 0;sieve 0;sieve 1;dust 10;";
    private static final String JAR = "jar 0 0 0 0;";
    private static final String STONE = "stone 0 0 0;";
    private static final String SIEVE = "sieve 0;";

    private TextEdgesTest() {
    }

    public static void main(String[] args) {
        mill();
        law();
        lawUnits();
        lawValues();
        work();
        stackAndBook();
        numbersWordsBlanks();
        firstFaults();
        tooMany();
        tooDeep();
        Bench.end();
    }

    private static void due(String call, long got, long want) {
        Bench.due(call, got, want);
    }

    /** A text that has a FAULT, read by a new object: its answer, its place, and that the TAPE is empty then. */
    private static void fault(char kind, String text, int answer, int place) {
        SnuffMill x = Bench.of(MILL);
        String call = kind + " '" + text + "'";
        due(call, Bench.read(x, kind, text), answer);
        due(call + " fault()", x.fault(), place);
        due(call + " count(1)", x.count(1), 0);
        due(call + " told(5)", x.told(5), 320);
    }

    private static void sound(char kind, String text, int answer) {
        SnuffMill x = Bench.of(MILL);
        due(kind + " '" + text + "'", Bench.read(x, kind, text), answer);
        due(kind + " '" + text + "' fault()", x.fault(), -1);
    }

    /** What a LAW makes of a JAR of 1 2 3 4 GRAMS, 5 old, on DAY 7, number 1. */
    private static void lawDue(String law, int want) {
        SnuffMill x = new SnuffMill();
        due("law '" + law + "'", Bench.law(x, law), 1);
        due("would by '" + law + "'", x.would(1, 2, 3, 4, 5, 7, 1), want);
    }

    private static void mill() {
        Bench.edge("A MILL is a text of up to 600 bytes", () -> {
            SnuffMill x = new SnuffMill();
            Bench.put(x, " ".repeat(592) + "dust 49;");
            due("mill(600)", x.mill(600), 0);
            due("its last byte is read", x.told(3), 49);
            Bench.put(x, " ".repeat(592) + "dust 48;");
            due("mill(599)", x.mill(599), -9);
            due("at the length", x.fault(), 599);
            Bench.put(x, " ".repeat(600));
            Bench.wrong("mill(601)", () -> x.mill(601));
            due("the TAPE stays", x.count(1), 600);
        });
        Bench.edge("{ CLAUSE \";\" }, at most 60.", () -> {
            sound('m', "", 0);
            sound('m', "dust 1;".repeat(60), 0);
            sound('m', "dust 1;".repeat(54) + JAR.repeat(6) + "  ", 6);
            fault('m', "dust 1;".repeat(60) + "dust 1;", -7, 420);
            fault('m', "dust 1;".repeat(54) + JAR.repeat(6) + " sieve 0;", -7, 54 * 7 + 72 + 1);
            fault('m', "dust 1;".repeat(60) + ";", -9, 420);
            fault('m', "dust 1", -9, 6);
        });
        Bench.edge("JARS, numbered from 0 on, 6 at most", () -> {
            SnuffMill x = Bench.of("jar 1 0 0 0;sieve 0;jar 2 0 0 0;jar 3 0 0 0;stone 1 1 1;jar 4 0 0 0;jar 5 0 0 0;jar 6 0 0 0;");
            for (int jar = 0; jar < 6; jar++) {
                due("jar(" + jar + ", 0)", x.jar(jar, 0), jar + 1);
            }
            Bench.missing("jar(6, 0)", () -> x.jar(6, 0));
            sound('m', JAR.repeat(6), 6);
            fault('m', JAR.repeat(7), -7, 72);
        });
        Bench.edge("GRAMS of GRAINS 0, the finest, 1, 2, 3, each 0 to 999", () -> {
            for (int grain = 0; grain < 4; grain++) {
                int at = grain;
                SnuffMill x = Bench.of("jar" + numbers(4, grain, "999") + ";");
                for (int other = 0; other < 4; other++) {
                    due("jar(0, " + other + ")", x.jar(0, other), other == at ? 999 : 0);
                }
                fault('m', "jar" + numbers(4, grain, "1000") + ";", -8, 4 + 2 * grain);
            }
            fault('m', "jar 0 0 0;", -9, 9);
            fault('m', "jar 0 0 0 0 0;", -9, 12);
        });
        Bench.edge("STONES likewise, 4: of GRAINS 1, 2, 3 so many of 10, each 0 to 10", () -> {
            SnuffMill x = Bench.of("stone 1 2 3;stone 4 5 6;stone 7 8 9;stone 10 0 10;");
            for (int i = 0; i < 12; i++) {
                due("stone " + i, x.stone(i / 3, i % 3), i == 10 ? 0 : Math.min(i + 1, 10));
            }
            Bench.missing("stone(4, 0)", () -> x.stone(4, 0));
            sound('m', STONE.repeat(4), 0);
            fault('m', STONE.repeat(5), -7, 48);
            for (int i = 0; i < 3; i++) {
                sound('m', "stone" + numbers(3, i, "10") + ";", 0);
                fault('m', "stone" + numbers(3, i, "11") + ";", -8, 6 + 2 * i);
            }
            fault('m', "stone 1 1;", -9, 9);
            fault('m', "stone 1 1 1 1;", -9, 12);
        });
        Bench.edge("SIEVES likewise, 4: MESH M, 0 to 2", () -> {
            SnuffMill x = Bench.of("sieve 0;sieve 2;sieve 1;sieve 2;");
            due("MESH of 0", x.sieve(0, 0), 0);
            due("MESH of 1", x.sieve(1, 0), 2);
            due("MESH of 2", x.sieve(2, 0), 1);
            due("MESH of 3", x.sieve(3, 0), 2);
            Bench.missing("sieve(4, 0)", () -> x.sieve(4, 0));
            sound('m', SIEVE.repeat(4), 0);
            fault('m', SIEVE.repeat(5), -7, 32);
            fault('m', "sieve 3;", -8, 6);
            fault('m', "sieve;", -9, 5);
        });
        Bench.edge("\"dust\" N (0 to 50; 5 without; the last counts)", () -> {
            due("5 without", Bench.of("").told(3), 5);
            due("5 without, behind another", dustBehind("dust 9;", "sieve 1;"), 5);
            due("0", Bench.of("dust 0;").told(3), 0);
            due("50", Bench.of("dust 50;").told(3), 50);
            due("the last counts", Bench.of("dust 9;jar 1 1 1 1;dust 50;dust 3;").told(3), 3);
            due("the last counts, being more", Bench.of("dust 3;dust 50;").told(3), 50);
            fault('m', "dust 51;", -8, 5);
            fault('m', "dust;", -9, 4);
        });
    }

    private static int dustBehind(String first, String second) {
        SnuffMill x = Bench.of(first);
        Bench.mill(x, second);
        return x.told(3);
    }

    /** So many numbers, 0 all but one. */
    private static String numbers(int many, int which, String number) {
        StringBuilder text = new StringBuilder();
        for (int i = 0; i < many; i++) {
            text.append(' ').append(i == which ? number : "0");
        }
        return text.toString();
    }

    private static void law() {
        Bench.edge("A LAW is a text of up to 150 bytes: E, at the end nothing more", () -> {
            SnuffMill x = new SnuffMill();
            Bench.put(x, "1" + "+1".repeat(74) + " " + " ".repeat(10));
            Bench.wrong("law(151)", () -> x.law(151));
            due("the TAPE stays", x.count(1), 160);
            due("law(150)", x.law(150), 1);
            due("all of it is read", x.would(0, 0, 0, 0, 0, 0, 0), 75);
            Bench.put(x, " ".repeat(148) + "38");
            due("law(150)", x.law(150), 1);
            due("its last byte is read", x.would(0, 0, 0, 0, 0, 0, 0), 38);
            fault('l', "", -9, 0);
            fault('l', "   ", -9, 3);
            fault('l', "1 1", -9, 2);
            fault('l', "fine fine", -9, 5);
            fault('l', "(1))", -9, 3);
            fault('l', "1;", -9, 1);
            fault('l', "1 ,", -9, 2);
            fault('l', "1]", -9, 1);
            fault('l', "fine(1)", -9, 4);
            sound('l', "1   ", 1);
        });
        Bench.edge("without: fine * 90 / (all + 1)", () -> {
            SnuffMill x = Bench.of("jar 0 0 0 0;jar 1 0 0 0;jar 10 9 0 0;jar 5 0 0 4;");
            due("of an empty one", x.sneeze(0), 0);
            due("of one GRAM", x.sneeze(1), 45);
            due("900 by 20", x.sneeze(2), 45);
            due("450 by 10", x.sneeze(3), 45);
            due("9,999", x.would(9999, 0, 0, 0, 0, 0, 0), 89);
            due("cut", x.would(9999, 9999, 9999, 9999, 0, 0, 0), 22);
            Bench.law(x, "7");
            Bench.mill(x, "jar 9 0 0 0;");
            due("behind another MILL", x.sneeze(0), 81);
        });
        Bench.edge("what comes out, 0 at least, 99 at most", () -> {
            lawDue("0-1", 0);
            lawDue("0", 0);
            lawDue("1", 1);
            lawDue("98", 98);
            lawDue("99", 99);
            lawDue("100", 99);
            lawDue("0-999*999", 0);
            lawDue("999*999", 99);
            // inside nothing is bounded
            lawDue("(0-30)+40", 10);
            lawDue("500/10", 50);
        });
        Bench.edge("E: T { + or - T }. T: U { * or / or % U }.", () -> {
            lawDue("2+3*4", 14);
            lawDue("2*3+4", 10);
            lawDue("20-5-4", 11);
            lawDue("60/6/2", 5);
            lawDue("60/6*2", 20);
            lawDue("60*6/7%4", 3);
            lawDue("17%10%4", 3);
            lawDue("50-7%4*3+1", 42);
            fault('l', "+1", -9, 0);
            fault('l', "-1", -9, 0);
            fault('l', "1+", -9, 2);
            fault('l', "1 -  ", -9, 5);
            fault('l', "1*", -9, 2);
            fault('l', "1++1", -9, 2);
            fault('l', "1*-1", -9, 2);
            fault('l', "2%%2", -9, 2);
        });
    }

    private static void lawUnits() {
        Bench.edge("U: N (0 to 999)", () -> {
            lawDue("0+5", 5);
            lawDue("999-990", 9);
            fault('l', "1000", -8, 0);
            fault('l', "1+1000*2", -8, 2);
        });
        Bench.edge("\"fine\" (GRAMS of GRAIN 0), \"mid\" (of 1), \"coarse\" (of 2), \"husk\" (of 3), \"all\" (of all four)", () -> {
            lawDue("fine", 1);
            lawDue("mid", 2);
            lawDue("coarse", 3);
            lawDue("husk", 4);
            lawDue("all", 10);
            fault('l', "hus", -9, 0);
            fault('l', "fin e", -9, 0);
        });
        Bench.edge("\"age\" (its AGE), \"day\" (the DAY), \"jar\" (its number)", () -> {
            lawDue("age", 5);
            lawDue("day", 7);
            lawDue("jar", 1);
            SnuffMill x = Bench.of("jar 1 0 0 0;jar 0 0 0 0;jar 0 0 0 9;");
            Bench.law(x, "age*30+day*10+jar");
            Bench.work(x, "day;day;");
            due("of one that is not empty", x.sneeze(2), 82);
            due("an empty one is 0 old", x.sneeze(1), 21);
            due("the first one's number is 0", x.sneeze(0), 80);
        });
        Bench.edge("\"least\" \"[\" E \",\" E \"]\", \"most\" \"[\" E \",\" E \"]\", or \"(\" E \")\"", () -> {
            lawDue("least[7,8]", 7);
            lawDue("least[8,7]", 7);
            lawDue("least[7,7]", 7);
            lawDue("most[7,8]", 8);
            lawDue("most[8,7]", 8);
            lawDue("most[7,7]", 7);
            lawDue("most[0-5,0-6]+9", 4);
            lawDue("least[0-5,0-6]+9", 3);
            lawDue("least[1+2*3,(9)]*2", 14);
            lawDue("((6))", 6);
            fault('l', "least", -9, 5);
            fault('l', "least 7,8]", -9, 6);
            fault('l', "least(7,8)", -9, 5);
            fault('l', "least[]", -9, 6);
            fault('l', "least[7]", -9, 7);
            fault('l', "least[7,]", -9, 8);
            fault('l', "least[7,8,9]", -9, 9);
            fault('l', "most[7,8)", -9, 8);
            fault('l', "most[7,8", -9, 8);
            fault('l', "()", -9, 1);
            fault('l', "(1]", -9, 2);
            fault('l', "(1", -9, 2);
        });
    }

    private static void lawValues() {
        Bench.edge("Values are whole numbers of 32 bits that wrap", () -> {
            String half = "128*128*128*128*8"; // 2 to the 31st: the least value
            lawDue(half, 0);
            lawDue(half + "-1", 99);
            lawDue("(" + half + "-1)/(999*999*22)", 97);
            lawDue("(" + half + "-1)+1", 0);
            lawDue("(" + half + "-1)*2+9", 7);
            lawDue("128*128*128*128*16+6", 6);
            lawDue("0-(" + half + ")", 0);
            lawDue("(0-(" + half + ")-1)/(128*128*128*16)", 63);
            // 999 to the 4th is 996,005,996,001, less 232 times 2 to the 32nd: -426,416,671
            lawDue("999*999*999*999", 0);
            lawDue("(0-999*999*999*999)/(999*999*5)", 85);
        });
        Bench.edge("/ cuts, % leaves (with the sign of what is divided), by 0 both are 0", () -> {
            lawDue("7/2", 3);
            lawDue("(0-7)/2+9", 6);
            lawDue("7/(0-2)+9", 6);
            lawDue("(0-7)/(0-2)", 3);
            lawDue("1/2", 0);
            lawDue("(0-1)/2+9", 9);
            lawDue("7%4", 3);
            lawDue("(0-7)%4+9", 6);
            lawDue("7%(0-4)", 3);
            lawDue("(0-7)%(0-4)+9", 6);
            lawDue("8%4", 0);
            lawDue("7/0+9", 9);
            lawDue("7%0+9", 9);
            lawDue("0/0+9", 9);
            lawDue("(0-7)/(mid-2)+9", 9);
            lawDue("(0-7)%(mid-2)+9", 9);
            lawDue("128*128*128*128*8/(0-1)+1", 0);
            lawDue("128*128*128*128*8/(0-1)/(0-256*256*256)", 99);
            lawDue("128*128*128*128*8%(0-1)+9", 9);
        });
    }

    private static void work() {
        Bench.edge("WORK is a text of up to 150 bytes", () -> {
            SnuffMill x = Bench.of(MILL);
            Bench.put(x, "day;".repeat(36) + "tear1;" + " ".repeat(10));
            Bench.wrong("work(151)", () -> x.work(151));
            due("the TAPE stays", x.count(1), 160);
            due("nothing is done", x.told(4), 0);
            due("work(150)", x.work(150), 37);
            due("its last STEP is done", x.told(9), 2);
        });
        Bench.edge("{ STEP \";\" }. STEP: \"grind\" S J (STONE S)", () -> {
            sound('w', "", 0);
            sound('w', "  ", 0);
            sound('w', "grind 1 3;", 1);
            fault('w', "grind 2 0;", -8, 6);
            fault('w', "grind 0 4;", -8, 8);
            fault('w', "grind 0;", -9, 7);
            fault('w', "grind 0 0 0;", -9, 10);
            fault('w', "grind 0 0", -9, 9);
            fault('w', ";", -9, 0);
            SnuffMill x = Bench.of("jar 1 1 1 1;");
            due("no STONE at all", Bench.work(x, "grind 0 0;"), -8);
        });
        Bench.edge("\"sift\" S J J J (SIEVE S), \"pour\" J J", () -> {
            sound('w', "sift 1 3 0 2;", 1);
            fault('w', "sift 2 0 0 0;", -8, 5);
            fault('w', "sift 1 4 0 0;", -8, 7);
            fault('w', "sift 1 0 4 0;", -8, 9);
            fault('w', "sift 1 0 0 4;", -8, 11);
            fault('w', "sift 1 0 0;", -9, 10);
            sound('w', "pour 3 2;", 1);
            fault('w', "pour 4 0;", -8, 5);
            fault('w', "pour 0 4;", -8, 7);
            fault('w', "pour 0;", -9, 6);
        });
        Bench.edge("\"scoop\" J J N (1 to 999)", () -> {
            sound('w', "scoop 0 1 1;", 1);
            sound('w', "scoop 0 1 999;", 0);
            fault('w', "scoop 0 1 0;", -8, 10);
            fault('w', "scoop 0 1 000;", -8, 10);
            fault('w', "scoop 0 1 1000;", -8, 10);
            fault('w', "scoop 4 1 1;", -8, 6);
            fault('w', "scoop 0 4 0;", -8, 8);
            fault('w', "scoop 0 1;", -9, 9);
            SnuffMill x = Bench.of("jar 999 1 0 0;jar 0 0 0 0;");
            due("999", Bench.work(x, "scoop 0 1 999;"), 1);
            due("of it", x.jar(1, 4), 999);
        });
        Bench.edge("\"tear\" S (SIEVE S), \"sell\" J, \"day\"", () -> {
            sound('w', "tear 1;", 1);
            fault('w', "tear 2;", -8, 5);
            fault('w', "tear;", -9, 4);
            sound('w', "sell 3;", 0);
            fault('w', "sell 4;", -8, 5);
            fault('w', "sell;", -9, 4);
            sound('w', "day;", 1);
            fault('w', "day 0;", -9, 4);
        });
        Bench.edge("\"again\" N \"[\" { STEP \";\" } \"]\" (N 0 to 40)", () -> {
            sound('w', "again 0[day;];", 0);
            sound('w', "again 1[day;];", 1);
            sound('w', "again 40[day;];", 40);
            sound('w', "again 40[];", 0);
            sound('w', "again 2[again 3[day;];tear 0;];day;", 9);
            fault('w', "again 41[];", -8, 6);
            fault('w', "again [];", -9, 6);
            fault('w', "again 1 day;];", -9, 8);
            fault('w', "again 1[day];", -9, 11);
            fault('w', "again 1[day;]", -9, 13);
            fault('w', "again 1[day;", -9, 12);
            fault('w', "again 1[day;;];", -9, 12);
            fault('w', "again 1[day;)", -9, 12);
            fault('w', "day;];", -9, 4);
            fault('w', "again 0[grind 2 0;];", -8, 14);
        });
    }

    private static void stackAndBook() {
        Bench.edge("A STACK is one of up to 60 bytes: { S \";\" }, 8 SIEVES at most, the highest first.", () -> {
            SnuffMill x = Bench.of(MILL);
            Bench.put(x, " ".repeat(56) + "1;0;" + " ".repeat(20));
            Bench.wrong("stack(61)", () -> x.stack(61));
            due("the TAPE stays", x.count(1), 80);
            due("stack(60)", x.stack(60), 2);
            due("30 stay on the highest, the first told", x.stays(0, 0), 30);
            due("40 on the next", x.stays(0, 1), 40);
            sound('s', "", 0);
            sound('s', "0;1;0;1;0;1;0;1;", 8);
            fault('s', "0;1;0;1;0;1;0;1;0;", -7, 16);
            fault('s', "2;", -8, 0);
            fault('s', "0", -9, 1);
            fault('s', "0 0;", -9, 2);
            fault('s', ";", -9, 0);
            SnuffMill y = Bench.of("jar 1 1 1 1;");
            due("no SIEVE at all", Bench.stack(y, "0;"), -8);
        });
        Bench.edge("A BOOK is one of up to 60 bytes: { G N \";\" }, no G twice: N GRAMS (0 to 9,999) of GRAIN G (0 to 3) fell.", () -> {
            SnuffMill x = Bench.of(MILL);
            Bench.put(x, " ".repeat(53) + "3 9999;" + " ".repeat(20));
            Bench.wrong("book(61)", () -> x.book(61));
            due("the TAPE stays", x.count(1), 80);
            due("book(60)", x.book(60), 1);
            due("no pair fits", x.fits(0), 0);
            due("0 of GRAIN 3", Bench.book(x, "3 0;"), 1);
            due("all pairs fit", x.fits(0), 6);
            sound('b', "", 0);
            sound('b', "3 0;2 9999;1 0;0 9999;", 4);
            fault('b', "0 10000;", -8, 2);
            fault('b', "4 0;", -8, 0);
            fault('b', "0 1;1 1;0 1;", -8, 8);
            fault('b', "3 1;3 1;", -8, 4);
            fault('b', "0;", -9, 1);
            fault('b', "0 1", -9, 3);
            fault('b', "0 1 1;", -9, 4);
        });
    }

    private static void numbersWordsBlanks() {
        Bench.edge("Numbers: digits, as many as stand there", () -> {
            SnuffMill x = new SnuffMill();
            due("zeros ahead", Bench.mill(x, "jar 0000000000000000000000000000000000007 00 0999 1;"), 1);
            Bench.jarDue("zeros ahead", x, 0, 7, 0, 999, 1);
            fault('m', "dust 007000;", -8, 5);
            fault('m', "dust 4294967296;", -8, 5);
            fault('m', "dust 4294967301;", -8, 5);
            fault('m', "dust 18446744073709551621;", -8, 5);
            fault('m', "dust " + "9".repeat(590) + ";", -8, 5);
            fault('l', "4294967297", -8, 0);
            fault('w', "sell 4294967296;", -8, 5);
            fault('s', "4294967296;", -8, 0);
            fault('b', "4294967296 0;", -8, 0);
            fault('b', "0 4294967296;", -8, 2);
            sound('w', "again00040[day;];", 40);
            fault('m', "dust /;", -9, 5);
            fault('m', "dust :;", -9, 5);
            fault('m', "dust 1:;", -9, 6);
            fault('m', "dust 1/;", -9, 6);
            fault('m', "dust 1.;", -9, 6);
            fault('m', "dust +1;", -9, 5);
            fault('m', "dust -1;", -9, 5);
        });
        Bench.edge("WORDS: small letters, as many as stand there", () -> {
            fault('m', "dusta 1;", -9, 0);
            fault('m', "dus 1;", -9, 0);
            fault('m', "dustdust 1;", -9, 0);
            fault('m', "Dust 1;", -9, 0);
            fault('m', "dusT 1;", -9, 0);
            fault('m', "dust`1;", -9, 4);
            fault('m', "dust{1;", -9, 4);
            fault('w', "dayz;", -9, 0);
            fault('w', "daya;", -9, 0);
            fault('w', "da", -9, 0);
            fault('w', "day{;", -9, 3);
            fault('l', "jarz", -9, 0);
            fault('l', "finemid", -9, 0);
            fault('l', "{", -9, 0);
            fault('l', "`", -9, 0);
            fault('m', "age 1;", -9, 0);
            fault('w', "dust 1;", -9, 0);
            fault('l', "again", -9, 0);
            sound('m', "dust1;sieve2;jar1 1 1 1;", 1);
            sound('w', "tear1;sell0;", 2);
            sound('l', "fine+mid", 1);
        });
        Bench.edge("blanks (32) may stand ahead of all these, and at the end", () -> {
            sound('m', "   ", 0);
            sound('m', "  dust   1  ;  jar  1   2 3 4 ;  ", 1);
            sound('l', "  ( fine  +  least  [  1  ,  2  ]  )  *  3  /  4  %  5  ", 1);
            sound('w', "  again  2  [  day  ;  tear  1  ;  ]  ;  ", 4);
            sound('s', "  0  ;  1  ;  ", 2);
            sound('b', "  0  1  ;  1  1  ;  ", 2);
            fault('m', "dust 4 9;", -9, 7);
            fault('m', "du st 1;", -9, 0);
            fault('m', "dust\t1;", -9, 4);
            fault('m', "\tdust 1;", -9, 0);
            fault('m', "dust 1;\n", -9, 7);
            fault('m', "dust 1;\u0000", -9, 7);
            fault('m', "dust\u00a01;", -9, 4);
            fault('m', "dust!1;", -9, 4);
            fault('m', "\u001fdust 1;", -9, 0);
        });
    }

    private static void firstFaults() {
        Bench.edge("FAULTS, the first from the left, at its first byte", () -> {
            fault('m', "dust 999;jars;", -8, 5);
            fault('m', "jars;dust 999;", -9, 0);
            fault('m', "dust 1;  stones 99 99 99;", -9, 9);
            fault('m', "dust    99999;", -8, 8);
            fault('m', JAR.repeat(6) + JAR + "x", -7, 72);
            fault('m', "x" + JAR.repeat(7), -9, 0);
            fault('l', "1000+x", -8, 0);
            fault('l', "x+1000", -9, 0);
            fault('w', "day;sell 9;x", -8, 9);
            fault('w', "x;sell 9;", -9, 0);
            fault('s', "9;x;", -8, 0);
            fault('b', "0 1;0 99999;", -8, 4);
        });
        Bench.edge("1 what can't stand there (at the length, if the text ends too early)", () -> {
            fault('m', "dust", -9, 4);
            fault('m', "dust   ", -9, 7);
            fault('m', "dust 1", -9, 6);
            fault('m', "dust 1  ", -9, 8);
            fault('m', "jar 1 1 1", -9, 9);
            fault('l', "1+", -9, 2);
            fault('l', "1+   ", -9, 5);
            fault('l', "least[1,", -9, 8);
            fault('w', "again 3", -9, 7);
            fault('w', "again 3[  ", -9, 10);
            fault('w', "pour 1 ", -9, 7);
            fault('s', "1 ", -9, 2);
            fault('b', "1 ", -9, 2);
            SnuffMill x = Bench.of(MILL);
            Bench.put(x, "dust 1;");
            due("what stands behind the length is not read", x.mill(6), -9);
            due("at the length", x.fault(), 6);
            Bench.put(x, "dust 1234;");
            due("nor more digits", x.mill(6), -9);
            due("at the length", x.fault(), 6);
            Bench.put(x, "day;");
            due("nor more letters", x.work(2), -9);
            due("the word that stands there", x.fault(), 0);
            fault('m', "\u00ff", -9, 0);
            fault('m', "dust 1;\u00e4", -9, 7);
        });
        Bench.edge("2 a number that is none such (a G twice in a BOOK)", () -> {
            fault('m', "dust 51;", -8, 5);
            fault('w', "sell 4;", -8, 5);
            fault('l', "1000", -8, 0);
            fault('s', "2;", -8, 0);
            fault('b', "2 5; 2 5;", -8, 5);
            fault('b', "2 5;1 1;02 5;", -8, 8);
            fault('b', "0 0;1 0;2 0;3 0;0 0;", -8, 16);
            fault('b', "2 5;2", -8, 4);
            SnuffMill x = new SnuffMill();
            due("no JARS at all", Bench.work(x, "sell 0;"), -8);
            due("at the number", x.fault(), 5);
        });
    }

    private static void tooMany() {
        Bench.edge("3 a CLAUSE, JAR, STONE or SIEVE too many (at its word)", () -> {
            fault('m', JAR.repeat(6) + "  " + JAR, -7, 74);
            fault('m', STONE.repeat(4) + "  " + STONE, -7, 50);
            fault('m', SIEVE.repeat(4) + "  " + SIEVE, -7, 34);
            fault('m', "dust 1;".repeat(60) + "  dust 1;", -7, 422);
            fault('m', JAR.repeat(6) + "jar", -7, 72);
            fault('m', JAR.repeat(6) + "jar 1000", -7, 72);
            fault('m', "dust 1;".repeat(60) + "dust", -7, 420);
            sound('m', JAR.repeat(6) + STONE.repeat(4) + SIEVE.repeat(4), 6);
        });
        Bench.edge("a 9th SIEVE of a STACK (at it)", () -> {
            fault('s', "1;".repeat(8) + "  1;", -7, 18);
            fault('s', "1;".repeat(8) + "1", -7, 16);
            sound('s', "1;".repeat(8) + "  ", 8);
        });
        Bench.edge("of one the least.", () -> {
            fault('s', "1;".repeat(8) + "2;", -8, 16);
            fault('s', "1;".repeat(8) + "x;", -9, 16);
            fault('s', "1;".repeat(8) + ";", -9, 16);
            fault('m', "dust 1;".repeat(60) + "dusty 1;", -9, 420);
            fault('m', JAR.repeat(6) + "jars 1 1 1 1;", -9, 72);
            fault('l', "((((((leas", -9, 6);
            fault('w', "again 1[".repeat(6) + "agains 1[", -9, 48);
        });
    }

    private static void tooDeep() {
        Bench.edge("a 7th of ( least most again that is open at one time", () -> {
            sound('l', "((((((1))))))", 1);
            fault('l', "(((((((1)))))))", -7, 6);
            sound('l', "(((((least[1,2])))))", 1);
            fault('l', "((((((least[1,2]))))))", -7, 6);
            fault('l', "(((((( most[1,2]))))))", -7, 7);
            sound('l', "most[least[most[least[most[least[1,2],3],4],5],6],7]", 1);
            fault('l', "most[least[most[least[most[least[1,(2)],3],4],5],6],7]", -7, 35);
            fault('l', "least[1,least[1,least[1,least[1,least[1,least[1,least[1,2]]]]]]]", -7, 48);
            // closed ones are not open any more
            sound('l', "((((((1))))))+((((((1))))))*((((((1))))))", 1);
            sound('l', "((((least[(1),(2)]*(3)))))", 1);
            sound('w', "again 1[".repeat(6) + "day;" + "];".repeat(6), 1);
            fault('w', "again 1[".repeat(7) + "day;" + "];".repeat(7), -7, 48);
            fault('w', "again 1[".repeat(6) + "day; again 41", -7, 53);
            sound('w', "again 1[" + "again 1[];".repeat(13) + "];", 0);
            sound('w', "again 1[];".repeat(15), 0);
        });
    }
}
