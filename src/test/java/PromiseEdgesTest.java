import static java.lang.Integer.MAX_VALUE;
import static java.lang.Integer.MIN_VALUE;

import java.util.function.LongSupplier;

/** Promises 1 to 44: the document's words that name a boundary case, each with a test of its own. */
public final class PromiseEdgesTest {
    private static final String MILL =
        "jar 100 40 20 10;jar 0 0 0 0;jar 5 0 0 95;jar 0 0 50 0;stone 5 10 2;stone 0 0 0;sieve 0;sieve 1;dust 10;";
    private static final String NINES = "jar 999 999 999 999;jar 999 999 999 999;jar 999 999 9 0;jar 1 0 0 0;";

    private PromiseEdgesTest() {
    }

    public static void main(String[] args) {
        newObjectAndFeed();
        texts();
        textsLikewise();
        workAndFault();
        undo();
        told();
        things();
        sneezes();
        grindingsAndSiftings();
        lots();
        booksAndChances();
        shops();
        shelf();
        jarsOfAll();
        blendsAndDays();
        amounts();
        years();
        images();
        counts();
        Bench.end();
    }

    private static void due(String call, long got, long want) {
        Bench.due(call, got, want);
    }

    /** A call of one number: from least to most it answers, just beside it throws IllegalArgumentException, once. */
    private static void bounds(SnuffMill x, String call, int least, int most, Ask ask) {
        int before = x.status(1);
        for (int n : new int[] {least, most}) {
            long answer = Bench.answer(() -> ask.of(n));
            due(call + " of " + n + " answers", answer == Bench.WRONG || answer == Bench.MISSING ? 0 : 1, 1);
        }
        due(call + ": none was refused", x.status(1), before);
        for (int n : new int[] {least - 1, most + 1, MIN_VALUE, MAX_VALUE}) {
            Bench.wrong(call + " of " + n, () -> ask.of(n));
        }
        due(call + ": four were refused", x.status(1), before + 4);
    }

    /** A call of one JAR, STONE or SIEVE: 0 to many - 1 answer, others throw NoSuchElementException. */
    private static void things(SnuffMill x, String call, int many, Ask ask) {
        int before = x.status(0);
        int wrong = x.status(1);
        for (int n = 0; n < many; n++) {
            int thing = n;
            long answer = Bench.answer(() -> ask.of(thing));
            due(call + " of " + n + " answers", answer == Bench.WRONG || answer == Bench.MISSING ? 0 : 1, 1);
        }
        due(call + ": none was refused", x.status(0), before);
        for (int n : new int[] {-1, many, MIN_VALUE, MAX_VALUE}) {
            Bench.missing(call + " of " + n, () -> ask.of(n));
        }
        due(call + ": four were refused", x.status(0), before + 4);
        due(call + ": by no other reason", x.status(1), wrong);
    }

    private interface Ask {
        long of(int n);
    }

    private static void answers(String call, SnuffMill x, int want, LongSupplier ask) {
        int before = x.status(0) + x.status(1);
        due(call, Bench.answer(ask), want);
        due(call + " is not refused", x.status(0) + x.status(1), before);
    }

    private static void newObjectAndFeed() {
        Bench.edge("`SnuffMill()`: A MILL without CLAUSES.", () -> {
            SnuffMill x = new SnuffMill();
            int[] want = {0, 0, 0, 5, 0, 0, 0, 0, 0, 0, 0, 0, 0};
            for (int what = 0; what <= 12; what++) {
                due("told(" + what + ")", x.told(what), want[what]);
            }
            due("fault()", x.fault(), -1);
            due("undo()", x.undo(), -1);
            due("restore()", x.restore(), -1);
            due("count(0)", x.count(0), 0);
            due("count(1)", x.count(1), 0);
            due("count(2)", x.count(2), 0);
            due("status(0)", x.status(0), 0);
            due("status(1)", x.status(1), 0);
            due("ripe()", x.ripe(), 0);
            due("even()", x.even(), 0);
            due("worth()", x.worth(), 0);
            due("sharpest(0)", x.sharpest(0), -1);
            due("oldest(0)", x.oldest(0), -1);
            due("amount(0, 1)", x.amount(0, 1), -1);
            due("halves(0, 1)", x.halves(0, 1), 0);
            Bench.wrong("halves(1, 1)", () -> x.halves(1, 1));
            Bench.missing("jar(0, 0)", () -> x.jar(0, 0));
            Bench.missing("stone(0, 0)", () -> x.stone(0, 0));
            Bench.missing("sieve(0, 0)", () -> x.sieve(0, 0));
            due("a WORK of days", Bench.work(x, "day;day;"), 2);
            due("told(4)", x.told(4), 2);
        });
        Bench.edge("Twenty bytes come on the TAPE, of each number the highest first: how many there are", () -> {
            SnuffMill x = new SnuffMill();
            due("the first", x.feed(0x73696576, 0x6520323b, 0x73696576, 0x6520313b, 0x73696576), 20);
            due("the second", x.feed(0x6520303b, 0x20202020, 0, 0, 0), 40);
            due("mill(28)", x.mill(28), 0);
            due("SIEVES", x.told(2), 3);
            due("the first one's MESH", x.sieve(0, 0), 2);
            due("the last one's MESH", x.sieve(2, 0), 0);
            due("behind a text from 0 on", x.feed(-1, MIN_VALUE, MAX_VALUE, 0, 1), 20);
            due("bytes above 127", x.mill(20), -9);
            due("at the first", x.fault(), 0);
        });
        Bench.edge("NONE, doing nothing, if there would be more than 600.", () -> {
            SnuffMill x = new SnuffMill();
            for (int i = 1; i < 30; i++) {
                due("feed " + i, x.feed(0x20202020, 0x20202020, 0x20202020, 0x20202020, 0x20202020), 20 * i);
            }
            due("just 600", x.feed(0x20202020, 0x20202020, 0x20202020, 0x64757374, 0x2034373b), 600);
            due("more", x.feed(-1, -1, -1, -1, -1), -1);
            due("more", x.feed(0, 0, 0, 0, 0), -1);
            due("600 are there", x.count(1), 600);
            due("mill(600)", x.mill(600), 0);
            due("as they were", x.told(3), 47);
            due("there is room again", x.feed(0, 0, 0, 0, 0), 20);
            due("refused by no exception", x.status(1), 0);
        });
    }

    private static void texts() {
        Bench.edge("The first n bytes of the TAPE (empty then) are the MILL (no LAW, STACK, BOOK, IMAGES, nothing to undo): how many JARS", () -> {
            SnuffMill x = Bench.of(MILL);
            Bench.law(x, "77");
            Bench.stack(x, "0;");
            Bench.book(x, "0 1;");
            Bench.work(x, "day;tear 0;pour 1 1;");
            x.image();
            x.image();
            Bench.put(x, "jar 9 0 0 0;jar 1 0 0 0;sieve 0;");
            due("of the first 12 bytes", x.mill(12), 1);
            due("the TAPE is empty", x.count(1), 0);
            due("no LAW", x.sneeze(0), 81);
            due("no STACK", x.told(11), 0);
            due("no BOOK", x.told(12), 0);
            due("no IMAGES", x.count(0), 0);
            due("nothing to undo", x.count(2), 0);
            due("undo()", x.undo(), -1);
            due("restore()", x.restore(), -1);
            int[] want = {1, 0, 0, 5, 0, 9, 0, 0, 0, 0, 0, 0, 0};
            for (int what = 0; what <= 12; what++) {
                due("told(" + what + ")", x.told(what), want[what]);
            }
            Bench.put(x, "jar 1 1 1 1;");
            due("mill(0)", x.mill(0), 0);
            due("no JARS", x.told(0), 0);
            due("the TAPE is empty", x.count(1), 0);
        });
        Bench.edge("or the FAULT less 10 (all but the TAPE stays)", () -> {
            SnuffMill x = Bench.of(MILL);
            Bench.law(x, "7");
            Bench.stack(x, "0;");
            Bench.book(x, "0 100;");
            Bench.work(x, "day;tear 0;pour 1 1;");
            x.image();
            String before = Bench.state(x);
            due("FAULT 1", Bench.mill(x, "jar 1 1 1 1;dust 9;stone 1 1 1;sieve 2;?"), -9);
            due("the TAPE is empty", x.count(1), 0);
            Bench.stateDue("all else stays", x, before);
            due("FAULT 2", Bench.mill(x, "jar 1 1 1 1;dust 99;"), -8);
            due("FAULT 3", Bench.mill(x, "sieve 2;".repeat(5)), -7);
            due("the TAPE is empty", x.count(1), 0);
            Bench.stateDue("all else stays", x, before);
            due("so, too, what can be undone", x.undo(), 0);
            due("undone", x.told(4), 0);
            due("and the IMAGE", x.restore(), 0);
            due("restored", x.told(4), 1);
            due("no call was refused", x.status(1), 0);
        });
        Bench.edge("n is not 0 to the TAPE's bytes (it stays).", () -> {
            SnuffMill x = Bench.of(MILL);
            Bench.wrong("mill(1) of none", () -> x.mill(1));
            Bench.mill(x, "?");
            due("a FAULT's place", x.fault(), 0);
            Bench.put(x, "dust 9;");
            for (int n : new int[] {-1, 21, MIN_VALUE, MAX_VALUE}) {
                Bench.wrong("mill(" + n + ")", () -> x.mill(n));
            }
            due("the TAPE stays", x.count(1), 20);
            due("the FAULT's place, too", x.fault(), 0);
            due("mill(20)", x.mill(20), -9);
            due("at the byte 0", x.fault(), 7);
            Bench.put(x, "dust 9;");
            due("mill(7)", x.mill(7), 0);
            due("told(3)", x.told(3), 9);
        });
    }

    private static void textsLikewise() {
        Bench.edge("Likewise the LAW (n to 150): 1.", () -> {
            SnuffMill x = Bench.of(MILL);
            likewise(x, 'l', 150, "(((2)))", 1, "(((2))))", -9);
            due("the LAW is as it was", x.sneeze(0), 2);
            due("FAULT 2", Bench.law(x, "3+1000"), -8);
            due("FAULT 3", Bench.law(x, "(((((((3)))))))"), -7);
            due("the LAW is as it was", x.sneeze(0), 2);
            due("another one", Bench.law(x, "4"), 1);
            due("another one", x.sneeze(0), 4);
        });
        Bench.edge("Likewise the STACK (n to 60): how many SIEVES.", () -> {
            SnuffMill x = Bench.of(MILL);
            likewise(x, 's', 60, "1;0;0;", 3, "0;0", -9);
            due("the STACK is as it was", x.told(11), 3);
            due("the STACK is as it was", x.stays(0, 0), 30);
            due("FAULT 2", Bench.stack(x, "0;9;"), -8);
            due("FAULT 3", Bench.stack(x, "0;".repeat(9)), -7);
            due("the STACK is as it was", x.stays(0, 1), 40);
            due("a shorter one", Bench.stack(x, "0;"), 1);
            due("none", x.stack(0), 0);
            due("none", x.told(11), 0);
        });
        Bench.edge("Likewise the BOOK (n to 60): how many lines.", () -> {
            SnuffMill x = Bench.of(MILL);
            likewise(x, 'b', 60, "0 5;1 0;", 2, "0 100;1", -9);
            due("the BOOK is as it was", x.told(12), 2);
            due("the BOOK is as it was", x.fits(1), 2);
            due("FAULT 2", Bench.book(x, "0 100;0 100;"), -8);
            due("the BOOK is as it was", x.fits(1), 2);
            due("a shorter one", Bench.book(x, "0 100;"), 1);
            due("its lines alone", x.fits(1), 0);
            due("none", x.book(0), 0);
            due("none", x.told(12), 0);
            due("none", x.fits(0), 6);
        });
        Bench.edge("Likewise WORK (n to 150), which is done: how many STEPS were done (agains not counted, nor REFUSED ones)", () -> {
            SnuffMill x = Bench.of(MILL);
            likewise(x, 'w', 150, "day;again 2[tear 0;pour 1 1;];", 3, "day;again 2[tear 0;", -9);
            due("done once", x.told(4), 1);
            due("REFUSED", x.told(10), 2);
            due("agains alone", Bench.work(x, "again 40[again 3[];];"), 0);
            due("REFUSED ones alone", Bench.work(x, "pour 1 1;"), 0);
            due("no STEPS", x.work(0), 0);
        });
        Bench.edge("or the FAULT less 10 (none is)", () -> {
            SnuffMill x = Bench.of(MILL);
            Bench.work(x, "pour 1 1;");
            String before = Bench.state(x);
            due("FAULT 1", Bench.work(x, "day;tear 0;grind 0 0;sell 0;x"), -9);
            due("FAULT 2", Bench.work(x, "day;tear 0;grind 0 0;sell 9;"), -8);
            due("FAULT 3", Bench.work(x, "day;" + "again 1[".repeat(7)), -7);
            Bench.stateDue("none is done, and it is no WORK", x, before);
        });
    }

    /** A text at its bounds: too long ones stay on the TAPE, good ones and faulty ones leave it empty. */
    private static void likewise(SnuffMill x, char kind, int most, String good, int answer, String faulty, int fault) {
        Bench.put(x, good + " ".repeat(180 - good.length()));
        for (int n : new int[] {-1, most + 1, 181, MIN_VALUE, MAX_VALUE}) {
            Bench.wrong(kind + " of " + n, () -> end(x, kind, n));
        }
        due("the TAPE stays", x.count(1), 180);
        due(kind + " of " + most, end(x, kind, most), answer);
        due("the TAPE is empty", x.count(1), 0);
        due("no FAULT", x.fault(), -1);
        Bench.wrong(kind + " of 1, on an empty TAPE", () -> end(x, kind, 1));
        Bench.put(x, faulty);
        due(kind + " with a FAULT", end(x, kind, faulty.length()), fault);
        due("its place", x.fault(), kind == 'l' ? faulty.length() - 1 : faulty.length());
        due("the TAPE is empty", x.count(1), 0);
        Bench.put(x, good);
        Bench.wrong(kind + " of more than there is", () -> end(x, kind, (good.length() + 19) / 20 * 20 + 1));
        due("no MILL begins so", x.mill(1), -9);
        due("the TAPE is empty", x.count(1), 0);
    }

    private static int end(SnuffMill x, char kind, int n) {
        switch (kind) {
            case 'l': return x.law(n);
            case 'w': return x.work(n);
            case 's': return x.stack(n);
            default: return x.book(n);
        }
    }

    private static void workAndFault() {
        Bench.edge("-20 behind the exception, ahead of the FAULT (nothing is read, there is no FAULT, the TAPE is empty then): 16 WORKS are there that were not undone.", () -> {
            SnuffMill x = Bench.of(MILL);
            for (int i = 1; i <= 15; i++) {
                Bench.work(x, "day;pour 1 1;pour 1 1;");
            }
            due("the 16th", Bench.work(x, "pour 1 1;"), 0);
            due("a FAULT", Bench.law(x, "1000"), -8);
            due("its place", x.fault(), 0);
            Bench.put(x, "day;?");
            Bench.wrong("the exception comes first", () -> x.work(21));
            Bench.wrong("the exception comes first", () -> x.work(-1));
            due("the TAPE stays", x.count(1), 20);
            due("the FAULT's place stays", x.fault(), 0);
            due("ahead of the FAULT", x.work(5), -20);
            due("there is no FAULT", x.fault(), -1);
            due("the TAPE is empty", x.count(1), 0);
            due("nothing is done", x.told(4), 15);
            due("REFUSED by the latest WORK that was done", x.told(10), 1);
            due("sound or not", Bench.work(x, "day;"), -20);
            due("of no bytes, too", x.work(0), -20);
            due("16 WORKS", x.count(2), 16);
            due("undo()", x.undo(), 15);
            due("room for one", Bench.work(x, "day;"), 1);
            due("for one alone", Bench.work(x, "day;"), -20);
            due("other texts are read", Bench.law(x, "9"), 1);
            due("a MILL makes room", Bench.mill(x, "jar 1 0 0 0;"), 1);
            due("a WORK", Bench.work(x, "day;"), 1);
        });
        Bench.edge("The place of the FAULT of the latest text; NONE without.", () -> {
            SnuffMill x = Bench.of(MILL);
            due("a sound MILL", x.fault(), -1);
            Bench.law(x, "1 + x");
            due("a LAW's", x.fault(), 4);
            Bench.stack(x, "0;0;9;");
            due("a STACK's", x.fault(), 4);
            Bench.book(x, "0 0;1 99999;");
            due("a BOOK's", x.fault(), 6);
            Bench.work(x, "day;day");
            due("a WORK's", x.fault(), 7);
            Bench.mill(x, "?");
            due("a MILL's", x.fault(), 0);
            x.undo();
            x.image();
            x.restore();
            x.feed(0, 0, 0, 0, 0);
            due("no text", x.fault(), 0);
            Bench.wrong("no text", () -> x.law(999));
            due("no text", x.fault(), 0);
            for (char kind : new char[] {'l', 's', 'b', 'w', 'm'}) {
                Bench.law(x, "?");
                due("a FAULT", x.fault() >= 0 ? 1 : 0, 1);
                Bench.read(x, kind, kind == 'l' ? "1" : "");
                due("a sound text: " + kind, x.fault(), -1);
            }
        });
    }

    private static void undo() {
        Bench.edge("The latest WORK that was done (of no STEPS, or with all of them REFUSED, too) is undone: how many are left; -1: there is none.", () -> {
            SnuffMill x = Bench.of(MILL);
            due("none", x.undo(), -1);
            String first = Bench.state(x);
            Bench.work(x, "day;tear 1;grind 0 0;sell 0;scoop 2 1 7;");
            x.work(0);
            String second = Bench.state(x);
            Bench.work(x, "pour 0 0;sell 0;");
            Bench.work(x, "again 9[];");
            due("an again alone", x.undo(), 3);
            due("of REFUSED ones", x.undo(), 2);
            Bench.stateDue("as it was", x, second);
            due("of no STEPS", x.undo(), 1);
            due("not yet undone", x.told(4), 1);
            due("the first", x.undo(), 0);
            Bench.stateDue("as at first", x, first);
            due("none", x.undo(), -1);
            Bench.stateDue("-1 does nothing", x, first);
            Bench.work(x, "day;");
            Bench.work(x, "x");
            due("a FAULT is none that was done", x.undo(), 0);
            due("undone", x.told(4), 0);
        });
    }

    private static void told() {
        Bench.edge("10 STEPS REFUSED by the latest WORK (0 ahead of any, behind mill() without a FAULT, undo(), restore())", () -> {
            SnuffMill x = Bench.of(MILL);
            due("ahead of any", x.told(10), 0);
            Bench.work(x, "pour 1 1;pour 1 1;day;");
            due("REFUSED", x.told(10), 2);
            Bench.mill(x, "?");
            due("behind mill() with a FAULT", x.told(10), 2);
            Bench.work(x, "pour 1 1;?");
            due("behind work() with a FAULT", x.told(10), 2);
            Bench.wrong("work(-1)", () -> x.work(-1));
            due("behind an exception", x.told(10), 2);
            Bench.work(x, "pour 1 1;day;");
            due("the latest alone", x.told(10), 1);
            x.image();
            due("behind image()", x.told(10), 1);
            x.undo();
            due("behind undo()", x.told(10), 0);
            Bench.work(x, "pour 1 1;");
            due("REFUSED", x.told(10), 1);
            x.restore();
            due("behind restore()", x.told(10), 0);
            Bench.work(x, "pour 1 1;");
            due("REFUSED", x.told(10), 1);
            Bench.mill(x, MILL);
            due("behind mill()", x.told(10), 0);
            Bench.work(x, "pour 1 1;");
            Bench.work(x, "day;");
            due("none by the latest", x.told(10), 0);
        });
        Bench.edge("8 JARS that are empty (bits), 9 SIEVES that are torn (bits)", () -> {
            SnuffMill x = Bench.of("jar 0 0 0 0;jar 1 0 0 0;jar 0 0 0 0;jar 0 0 0 0;jar 0 0 0 1;jar 0 0 0 0;sieve 0;sieve 1;sieve 2;sieve 0;");
            due("told(8)", x.told(8), 1 + 4 + 8 + 32);
            due("told(9)", x.told(9), 0);
            Bench.work(x, "pour 1 5;tear 0;tear 3;");
            due("told(8)", x.told(8), 1 + 2 + 4 + 8);
            due("told(9)", x.told(9), 9);
        });
        Bench.edge("11 SIEVES of the STACK, 12 lines of the BOOK. IllegalArgumentException: another what (so below).", () -> {
            SnuffMill x = Bench.of(MILL);
            Bench.stack(x, "0;1;0;1;0;1;0;1;");
            Bench.book(x, "0 0;1 0;2 0;3 0;");
            due("told(11)", x.told(11), 8);
            due("told(12)", x.told(12), 4);
            bounds(x, "told", 0, 12, n -> x.told(n));
            bounds(x, "jar(0, n)", 0, 6, n -> x.jar(0, n));
            bounds(x, "stone(0, n)", 0, 2, n -> x.stone(0, n));
            bounds(x, "sieve(0, n)", 0, 1, n -> x.sieve(0, n));
            bounds(x, "ground(0, 0, n)", 0, 4, n -> x.ground(0, 0, n));
            bounds(x, "falls(0, 0, n)", 0, 4, n -> x.falls(0, 0, n));
            bounds(x, "halves(0, n)", 0, 1, n -> x.halves(0, n));
            bounds(x, "box(0, 0, n)", 0, 2, n -> x.box(0, 0, n));
            bounds(x, "fits", 0, 1, n -> x.fits(n));
            bounds(x, "look", 0, 1, n -> x.look(n));
            bounds(x, "shops(0, 0, n)", 0, 2, n -> x.shops(0, 0, n));
            bounds(x, "sharpest", 0, 1, n -> x.sharpest(n));
            bounds(x, "oldest", 0, 1, n -> x.oldest(n));
            bounds(x, "amount(0, n)", 0, 1, n -> x.amount(0, n));
            bounds(x, "through(0, n)", 0, 1, n -> x.through(0, n));
            bounds(x, "year(0, 0, 1, n)", 0, 3, n -> x.year(0, 0, 1, n));
            bounds(x, "span(0, 1, 0, 1, n, 0)", 0, 2, n -> x.span(0, 1, 0, 1, n, 0));
        });
    }

    private static void things() {
        Bench.edge("0 to 3 GRAMS of GRAINS 0 to 3, 4 of all, 5 how old it is, 6 FINE", () -> {
            SnuffMill x = Bench.of(MILL);
            Bench.work(x, "day;");
            int[] want = {100, 40, 20, 10, 170, 1, 588};
            int[] none = {0, 0, 0, 0, 0, 0, 0};
            for (int what = 0; what <= 6; what++) {
                due("jar(0, " + what + ")", x.jar(0, what), want[what]);
                due("jar(1, " + what + ")", x.jar(1, what), none[what]);
            }
        });
        Bench.edge("NoSuchElementException: no such JAR, STONE, SIEVE (so below, ahead of others).", () -> {
            SnuffMill x = Bench.of(MILL);
            things(x, "jar(n, 0)", 4, n -> x.jar(n, 0));
            things(x, "stone(n, 0)", 2, n -> x.stone(n, 0));
            things(x, "sieve(n, 0)", 2, n -> x.sieve(n, 0));
            things(x, "sneeze", 4, n -> x.sneeze(n));
            things(x, "ground(n, 0, 0)", 2, n -> x.ground(n, 0, 0));
            things(x, "ground(0, n, 0)", 4, n -> x.ground(0, n, 0));
            things(x, "falls(n, 0, 0)", 2, n -> x.falls(n, 0, 0));
            things(x, "falls(0, n, 0)", 4, n -> x.falls(0, n, 0));
            things(x, "milled(n, 0, 0)", 4, n -> x.milled(n, 0, 0));
            things(x, "milled(0, n, 0)", 2, n -> x.milled(0, n, 0));
            things(x, "stays(n, 0)", 4, n -> x.stays(n, 0));
            things(x, "shelf(n, 0, 0)", 4, n -> x.shelf(n, 0, 0));
            things(x, "blend(n, 0)", 4, n -> x.blend(n, 0));
            things(x, "blend(0, n)", 4, n -> x.blend(0, n));
            things(x, "ripens", 4, n -> x.ripens(n));
            things(x, "space", 4, n -> x.space(n));
            things(x, "passes", 2, n -> x.passes(n));
            things(x, "like", 4, n -> x.like(n));
            things(x, "through(n, 0)", 2, n -> x.through(n, 0));
        });
        Bench.edge("(so below, ahead of others)", () -> {
            SnuffMill x = Bench.of(MILL);
            Bench.missing("jar(4, 7)", () -> x.jar(4, 7));
            Bench.missing("stone(2, 3)", () -> x.stone(2, 3));
            Bench.missing("sieve(2, 2)", () -> x.sieve(2, 2));
            Bench.missing("ground(2, 0, 5)", () -> x.ground(2, 0, 5));
            Bench.missing("ground(0, 4, 5)", () -> x.ground(0, 4, 5));
            Bench.missing("falls(2, 0, 5)", () -> x.falls(2, 0, 5));
            Bench.missing("falls(0, 4, 5)", () -> x.falls(0, 4, 5));
            Bench.missing("milled(4, 0, 1001)", () -> x.milled(4, 0, 1001));
            Bench.missing("milled(0, 2, -1)", () -> x.milled(0, 2, -1));
            Bench.missing("stays(4, -1)", () -> x.stays(4, -1));
            Bench.missing("shelf(4, 16, 0)", () -> x.shelf(4, 16, 0));
            Bench.missing("shelf(-1, 0, -1)", () -> x.shelf(-1, 0, -1));
            Bench.missing("through(2, 2)", () -> x.through(2, 2));
            due("each counted once", x.status(0), 13);
            due("none counted otherwise", x.status(1), 0);
        });
        Bench.edge("Of a STONE: 0 P, 1 Q, 2 R.", () -> {
            SnuffMill x = Bench.of("stone 0 5 10;stone 1 2 3;");
            for (int i = 0; i < 3; i++) {
                due("stone(0, " + i + ")", x.stone(0, i), 5 * i);
                due("stone(1, " + i + ")", x.stone(1, i), 1 + i);
            }
        });
        Bench.edge("Of a SIEVE: 0 MESH, 1 1 it is torn, 0 not.", () -> {
            SnuffMill x = Bench.of("sieve 2;sieve 0;");
            Bench.work(x, "tear 1;");
            due("MESH", x.sieve(0, 0), 2);
            due("MESH", x.sieve(1, 0), 0);
            due("not torn", x.sieve(0, 1), 0);
            due("torn", x.sieve(1, 1), 1);
        });
    }

    private static void sneezes() {
        Bench.edge("SNEEZE of a JAR now (of an empty one, too).", () -> {
            SnuffMill x = Bench.of(MILL);
            Bench.law(x, "jar*10+all/10+day");
            due("empty", x.sneeze(1), 10);
            due("not empty", x.sneeze(2), 30);
            Bench.work(x, "day;pour 2 1;");
            due("now", x.sneeze(1), 21);
            due("now empty", x.sneeze(2), 21);
        });
        Bench.edge("SNEEZE by the LAW for such fine, mid, coarse, husk (0 to 9,999 each; \"all\" is what these are together), age, day (0 to 400 each), jar (0 to 5).", () -> {
            SnuffMill x = new SnuffMill();
            Bench.law(x, "all/404");
            due("all is 39,996", x.would(9999, 9999, 9999, 9999, 400, 400, 5), 99);
            due("all is 39,995", x.would(9999, 9999, 9999, 9998, 400, 400, 5), 98);
            Bench.law(x, "age/8+day/16+jar");
            due("the most", x.would(0, 0, 0, 0, 400, 400, 5), 50 + 25 + 5);
            due("the least", x.would(0, 0, 0, 0, 0, 0, 0), 0);
            bounds(x, "would, fine", 0, 9999, n -> x.would(n, 0, 0, 0, 0, 0, 0));
            bounds(x, "would, mid", 0, 9999, n -> x.would(0, n, 0, 0, 0, 0, 0));
            bounds(x, "would, coarse", 0, 9999, n -> x.would(0, 0, n, 0, 0, 0, 0));
            bounds(x, "would, husk", 0, 9999, n -> x.would(0, 0, 0, n, 0, 0, 0));
            bounds(x, "would, age", 0, 400, n -> x.would(0, 0, 0, 0, n, 0, 0));
            bounds(x, "would, day", 0, 400, n -> x.would(0, 0, 0, 0, 0, n, 0));
            bounds(x, "would, jar", 0, 5, n -> x.would(0, 0, 0, 0, 0, 0, n));
        });
    }

    private static void grindingsAndSiftings() {
        Bench.edge("that a JAR would have behind a grinding by a STONE now (what it has, if it is empty), or that would be LOST (4)", () -> {
            SnuffMill x = Bench.of(MILL);
            int[] want = {108, 40, 2, 8, 12};
            int[] whole = {90, 40, 20, 10, 10};
            for (int what = 0; what < 5; what++) {
                due("ground(0, 0, " + what + ")", x.ground(0, 0, what), want[what]);
                due("ground(1, 0, " + what + ")", x.ground(1, 0, what), whole[what]);
                due("ground(0, 1, " + what + "), empty", x.ground(0, 1, what), 0);
            }
            Bench.work(x, "grind 1 0;");
            due("what was LOST ahead is not told", x.ground(1, 0, 4), 9);
            due("of an empty one none is", x.ground(1, 1, 4), 0);
        });
        Bench.edge("that would fall through a SIEVE now, or of all GRAINS (4)", () -> {
            SnuffMill x = Bench.of("jar 11 13 15 17;jar 0 0 0 0;sieve 0;sieve 2;");
            int[] whole = {11, 13, 15, 0, 39};
            for (int what = 0; what < 5; what++) {
                due("falls(1, 0, " + what + ")", x.falls(1, 0, what), whole[what]);
                due("falls(1, 1, " + what + "), empty", x.falls(1, 1, what), 0);
            }
            Bench.work(x, "tear 0;tear 1;");
            int[] torn = {11, 13, 15, 8, 47};
            int[] fine = {11, 6, 0, 0, 17};
            for (int what = 0; what < 5; what++) {
                due("torn: falls(1, 0, " + what + ")", x.falls(1, 0, what), torn[what]);
                due("torn: falls(0, 0, " + what + ")", x.falls(0, 0, what), fine[what]);
            }
        });
        Bench.edge("MILLED of a JAR, a STONE and n (0 to 1,000).", () -> {
            SnuffMill x = Bench.of(MILL);
            bounds(x, "milled(0, 0, n)", 0, 1000, n -> x.milled(0, 0, n));
            bounds(x, "milled(1, 0, n), empty", 0, 1000, n -> x.milled(1, 0, n));
        });
        Bench.edge("GRAMS that stay on the k-th SIEVE (from 0 on), or, k being how many there are, that fall through all; NONE: there are not so many. IllegalArgumentException: k below 0.", () -> {
            SnuffMill x = Bench.of(MILL);
            due("no STACK: all fall through", x.stays(0, 0), 170);
            due("no STACK: not so many", x.stays(0, 1), -1);
            Bench.stack(x, "1;0;");
            due("the 0th", x.stays(0, 0), 30);
            due("the 1st", x.stays(0, 1), 40);
            due("through all", x.stays(0, 2), 100);
            due("not so many", x.stays(0, 3), -1);
            due("not so many", x.stays(0, MAX_VALUE), -1);
            Bench.wrong("stays(0, -1)", () -> x.stays(0, -1));
            Bench.wrong("stays(0, MIN)", () -> x.stays(0, MIN_VALUE));
            due("two were refused", x.status(1), 2);
        });
    }

    private static void lots() {
        Bench.edge("0 by how much, 1 the lot (0: none are told). IllegalArgumentException: bits of no JARS (so below).", () -> {
            SnuffMill x = Bench.of(MILL);
            due("none are told", x.halves(0, 0), 0);
            due("none are told", x.halves(0, 1), 0);
            due("all", x.halves(15, 0), 20);
            due("all", x.halves(15, 1), 1);
            bounds(x, "halves(n, 0)", 0, 15, n -> x.halves(n, 0));
            bounds(x, "box(n, 0, 0)", 0, 15, n -> x.box(n, 0, 0));
            bounds(x, "shelf(0, n, 0)", 0, 15, n -> x.shelf(0, n, 0));
            Bench.wrong("a JAR that is there, and one that is not", () -> x.halves(17, 0));
            SnuffMill y = Bench.of("jar 1 0 0 0;".repeat(6));
            bounds(y, "halves(n, 0)", 0, 63, n -> y.halves(n, 0));
            bounds(y, "box(n, 0, 0)", 0, 63, n -> y.box(n, 0, 0));
            bounds(y, "shelf(0, n, 0)", 0, 63, n -> y.shelf(0, n, 0));
            SnuffMill z = new SnuffMill();
            bounds(z, "halves(n, 0)", 0, 0, n -> z.halves(n, 0));
            bounds(z, "box(n, 0, 0)", 0, 0, n -> z.box(n, 0, 0));
        });
        Bench.edge("BOX of told JARS and n (0 to 99,999): 0 SNEEZE together, 1 GRAMS together, 2 which (bits).", () -> {
            SnuffMill x = Bench.of(MILL);
            bounds(x, "box(15, n, 0)", 0, 99999, n -> x.box(15, n, 0));
            due("box(15, 99999, 0)", x.box(15, 99999, 0), 52 + 4);
            due("box(15, 99999, 1)", x.box(15, 99999, 1), 270);
            due("box(15, 99999, 2)", x.box(15, 99999, 2), 5);
            due("none fits", x.box(15, 0, 0), 0);
            due("none fits", x.box(15, 0, 1), 0);
            due("none fits", x.box(15, 0, 2), 0);
            SnuffMill y = Bench.of("jar 999 0 0 0;".repeat(6));
            Bench.law(y, "99");
            due("most SNEEZE there can be", y.box(63, 99999, 0), 594);
            due("its GRAMS", y.box(63, 99999, 1), 5994);
        });
    }

    private static void booksAndChances() {
        Bench.edge("FITS: 0 how many, 1 the first (NONE).", () -> {
            SnuffMill x = Bench.of(MILL);
            due("no lines", x.fits(0), 6);
            due("no lines", x.fits(1), 0);
            Bench.book(x, "3 95;");
            due("none", x.fits(0), 0);
            due("none", x.fits(1), -1);
        });
        Bench.edge("LOOK: 0 the GRAIN, 1 how many are left at the worst; NONE both: all are in lines.", () -> {
            SnuffMill x = Bench.of(MILL);
            due("no lines", x.look(0), 0);
            due("no lines", x.look(1), 2);
            Bench.book(x, "0 100;1 40;2 0;");
            due("one GRAIN in no line", x.look(0), 3);
            due("one GRAIN in no line", x.look(1), 1);
            Bench.book(x, "0 100;1 40;2 0;3 0;");
            due("all in lines", x.look(0), -1);
            due("all in lines", x.look(1), -1);
        });
        Bench.edge("FIT of n (0 to 12), k (0 to 13), q (0 to 16): above (half 0), below (half 1), in least terms; k above n: 0 by 1.", () -> {
            SnuffMill x = new SnuffMill();
            bounds(x, "fit(n, 0, 0, 0)", 0, 12, n -> x.fit(n, 0, 0, 0));
            bounds(x, "fit(0, n, 0, 0)", 0, 13, n -> x.fit(0, n, 0, 0));
            bounds(x, "fit(0, 0, n, 0)", 0, 16, n -> x.fit(0, 0, n, 0));
            bounds(x, "fit(0, 0, 0, n)", 0, 1, n -> x.fit(0, 0, 0, n));
            for (int n = 0; n <= 12; n++) {
                due("k above n", x.fit(n, n + 1, 16, 0), 0);
                due("k above n", x.fit(n, n + 1, 16, 1), 1);
                due("k is n", x.fit(n, n, 16, 0), 1);
                due("k is n", x.fit(n, n, 16, 1), 1);
            }
            due("k far above n", x.fit(0, 13, 16, 1), 1);
            due("in least terms", x.fit(12, 12, 8, 1), 4096);
            due("in least terms", x.fit(12, 12, 8, 0), 1);
            due("the greatest below", x.fit(12, 12, 1, 1), 281474976710656L);
            due("the greatest above", x.fit(12, 1, 15, 0), 281474976710655L);
        });
    }

    private static void shops() {
        Bench.edge("SHOPS by v, w (0 to 99): 0 how many RESTS, 1 the first (10 times what the one does, 0 by day, 1 by night, and the other one; NONE), 2 what both have by it together (0 without).", () -> {
            SnuffMill x = new SnuffMill();
            bounds(x, "shops(n, 0, 0)", 0, 99, n -> x.shops(n, 0, 0));
            bounds(x, "shops(0, n, 0)", 0, 99, n -> x.shops(0, n, 0));
            due("by day both", x.shops(99, 1, 1), 0);
            due("by day both", x.shops(99, 1, 2), 98);
            due("by night both", x.shops(1, 99, 1), 11);
            due("by night both", x.shops(1, 99, 2), 98);
            due("one by day, the other by night", x.shops(9, 8, 1), 1);
            due("one by day, the other by night", x.shops(9, 8, 2), 17);
            int without = 0;
            for (int i = 0; i < 400; i++) {
                int v = i % 20;
                int w = i / 20;
                without += x.shops(v, w, 0) == 0 ? 1 : 0;
            }
            // two alike ones with two things to do: something RESTS always, so NONE and 0 without never come
            due("there always are RESTS", without, 0);
        });
    }

    private static void shelf() {
        Bench.edge("What a JAR gets of n (0 to 99,999) by SHELF among told JARS (0, if it is none of them).", () -> {
            SnuffMill x = Bench.of(MILL);
            bounds(x, "shelf(0, 1, n)", 0, 99999, n -> x.shelf(0, 1, n));
            bounds(x, "shelf(0, 0, n)", 0, 99999, n -> x.shelf(0, 0, n));
            due("none of them", x.shelf(0, 14, 99999), 0);
            due("none told", x.shelf(0, 0, 99999), 0);
            due("n 0", x.shelf(0, 15, 0), 0);
            due("all", x.shelf(0, 15, 99999), 170);
            due("an empty one", x.shelf(1, 15, 99999), 0);
        });
    }

    private static void jarsOfAll() {
        Bench.edge("of those that are not empty, of most SNEEZE (what 0), of alike ones the first, its SNEEZE (1); NONE both: all are empty.", () -> {
            SnuffMill x = Bench.of("jar 0 0 0 0;jar 0 0 0 1;jar 0 0 0 2;jar 0 0 0 2;");
            due("of SNEEZE 0 the first", x.sharpest(0), 1);
            due("of SNEEZE 0 the first", x.sharpest(1), 0);
            Bench.law(x, "all");
            due("of alike ones the first", x.sharpest(0), 2);
            due("its SNEEZE", x.sharpest(1), 2);
            Bench.law(x, "90-jar");
            due("not an empty one", x.sharpest(0), 1);
            due("not an empty one", x.sharpest(1), 89);
            Bench.law(x, "99+jar");
            due("99 at most: alike", x.sharpest(0), 1);
            Bench.work(x, "sell 1;sell 2;sell 3;");
            due("all are empty", x.sharpest(0), -1);
            due("all are empty", x.sharpest(1), -1);
        });
        Bench.edge("JARS (bits) that could be sold now.", () -> {
            SnuffMill x = Bench.of("jar 1 0 0 0;jar 0 0 0 0;jar 0 1 0 0;jar 0 0 1 0;jar 0 0 0 1;jar 1 0 0 0;");
            Bench.law(x, "50-(jar/3)%2");
            due("50 and not empty", x.ripe(), 5);
            Bench.law(x, "49");
            due("49", x.ripe(), 0);
            Bench.law(x, "50");
            due("50", x.ripe(), 61);
            Bench.work(x, "sell 5;sell 0;");
            due("those left", x.ripe(), 28);
        });
        Bench.edge("JARS (bits) that have GRAMS of one GRAIN alone.", () -> {
            SnuffMill x = Bench.of("jar 1 0 0 0;jar 0 2 0 0;jar 0 0 3 0;jar 0 0 0 4;jar 0 0 0 0;jar 1 0 0 1;");
            due("an empty one has none, the last has two", x.even(), 15);
            Bench.work(x, "scoop 5 4 1;");
            due("parted", x.even(), 63);
            Bench.work(x, "pour 0 1;");
            due("two, and none", x.even(), 60);
        });
        Bench.edge("The oldest JAR that is not empty (what 0), of alike ones the first, how old (1); NONE both: all are empty.", () -> {
            SnuffMill x = Bench.of("jar 0 0 0 0;jar 1 0 0 0;jar 9 0 0 0;");
            due("0 old", x.oldest(0), 1);
            due("0 old", x.oldest(1), 0);
            Bench.work(x, "day;day;");
            due("of alike ones the first", x.oldest(0), 1);
            due("how old", x.oldest(1), 2);
            Bench.law(x, "50");
            Bench.work(x, "sell 1;");
            due("the other", x.oldest(0), 2);
            Bench.work(x, "sell 2;day;");
            due("all are empty", x.oldest(0), -1);
            due("all are empty", x.oldest(1), -1);
        });
    }

    private static void blendsAndDays() {
        Bench.edge("SNEEZE of the second JAR, were the first one poured into it now; NONE: that would be REFUSED.", () -> {
            SnuffMill x = Bench.of(NINES);
            Bench.work(x, "pour 1 0;");
            Bench.law(x, "10+jar+all/999");
            due("just 9,999", x.blend(2, 0), 20);
            Bench.work(x, "pour 2 0;");
            due("more than 9,999", x.blend(3, 0), -1);
            due("the first is empty", x.blend(1, 3), -1);
            due("both are one", x.blend(0, 0), -1);
            due("both are one, an empty one", x.blend(1, 1), -1);
            due("into an empty one", x.blend(3, 1), 11);
            due("9,999 into an empty one", x.blend(0, 2), 22);
            Bench.law(x, "0");
            due("SNEEZE 0 is not NONE", x.blend(3, 1), 0);
            Bench.work(x, "day;day;");
            Bench.law(x, "age*10+day");
            due("as old as the older one", x.blend(3, 1), 22);
        });
        Bench.edge("In how many DAYS (0 to 99), nothing else being done, a JAR could be sold; NONE.", () -> {
            SnuffMill x = Bench.of(MILL);
            ripensDue(x, "50", 0);
            ripensDue(x, "49+day", 1);
            ripensDue(x, "49+age", 1);
            ripensDue(x, "49+day/99", 99);
            ripensDue(x, "49+age/99", 99);
            ripensDue(x, "49+day/100", -1);
            ripensDue(x, "49", -1);
            Bench.law(x, "99");
            due("an empty one never", x.ripens(1), -1);
            Bench.work(x, "again 39[day;day;day;day;day;];");
            Bench.work(x, "again 36[day;day;day;];");
            due("DAY", x.told(4), 303);
            ripensDue(x, "49+day/400", 97);
            // a day is REFUSED from DAY 400 on
            ripensDue(x, "49+day/401", -1);
            Bench.work(x, "again 40[day;day;day;];");
            due("DAY", x.told(4), 400);
            ripensDue(x, "50", 0);
            ripensDue(x, "49+day/401", -1);
        });
        Bench.edge("How many GRAMS more a JAR could hold.", () -> {
            SnuffMill x = Bench.of(NINES);
            due("most of it", x.space(3), 9998);
            Bench.work(x, "pour 1 0;pour 2 0;");
            due("none", x.space(0), 0);
            due("an empty one", x.space(1), 9999);
        });
    }

    private static void ripensDue(SnuffMill x, String law, int want) {
        Bench.law(x, law);
        due("ripens by '" + law + "'", x.ripens(0), want);
    }

    private static void amounts() {
        Bench.edge("JARS (bits) that are not empty and all of which would fall through a SIEVE now.", () -> {
            SnuffMill x = Bench.of("jar 1 0 0 0;jar 0 1 0 0;jar 0 0 1 0;jar 0 0 0 2;jar 0 0 0 0;jar 5 5 5 0;sieve 0;sieve 1;sieve 2;");
            due("MESH 0", x.passes(0), 1);
            due("MESH 1", x.passes(1), 3);
            due("MESH 2", x.passes(2), 39);
            Bench.work(x, "tear 0;tear 1;tear 2;");
            due("half is not all", x.passes(0), 1);
            due("half is not all", x.passes(1), 3);
            due("half is not all", x.passes(2), 39);
        });
        Bench.edge("GRAMS of a GRAIN (0 to 3) of all JARS together (what 0), the JAR that has most of it (1), of alike ones the first; NONE: none has any.", () -> {
            SnuffMill x = Bench.of("jar 0 1 0 3;jar 7 2 0 0;jar 7 1 0 4;jar 0 0 0 0;");
            int[] sums = {14, 4, 0, 7};
            int[] jars = {1, 1, -1, 2};
            for (int grain = 0; grain < 4; grain++) {
                due("amount(" + grain + ", 0)", x.amount(grain, 0), sums[grain]);
                due("amount(" + grain + ", 1)", x.amount(grain, 1), jars[grain]);
            }
            bounds(x, "amount(n, 0)", 0, 3, n -> x.amount(n, 0));
            bounds(x, "amount(n, 1)", 0, 3, n -> x.amount(n, 1));
        });
        Bench.edge("MONEY that all JARS would bring that could be sold now.", () -> {
            SnuffMill x = Bench.of("jar 19 0 0 0;jar 9 0 0 0;jar 0 19 0 0;jar 0 0 0 0;jar 20 0 0 0;");
            due("each cut", x.worth(), 1 + 2);
            Bench.law(x, "50");
            due("all of them", x.worth(), 1 + 1 + 2);
            Bench.law(x, "49");
            due("none", x.worth(), 0);
            Bench.law(x, "50");
            Bench.work(x, "sell 0;");
            due("not what was sold", x.worth(), 3);
        });
        Bench.edge("Another JAR, not empty, whose FINE is nearest to that of a JAR (that may be empty), of alike ones the first; NONE: there is none.", () -> {
            SnuffMill x = Bench.of("jar 5 5 0 0;jar 0 0 0 0;jar 4 6 0 0;jar 6 4 0 0;jar 0 5 0 0;jar 5 5 0 0;");
            due("just as fine", x.like(0), 5);
            due("just as fine", x.like(5), 0);
            due("of alike ones the first", x.like(2), 0);
            due("an empty one is 0", x.like(1), 4);
            due("never an empty one", x.like(4), 2);
            Bench.law(x, "50");
            Bench.work(x, "sell 5;");
            due("400 and 600 are as near to 500", x.like(0), 2);
            Bench.work(x, "sell 2;sell 3;sell 4;");
            due("there is none", x.like(0), -1);
            due("an empty one's", x.like(5), 0);
            Bench.work(x, "sell 0;");
            due("all are empty", x.like(0), -1);
            due("a JAR alone", Bench.of("jar 1 0 0 0;").like(0), -1);
        });
        Bench.edge("GRAMS of all JARS together that would fall through a SIEVE now (what 0), that would stay (1).", () -> {
            SnuffMill x = Bench.of("jar 1 3 0 0;jar 0 3 0 0;jar 0 0 0 0;jar 0 1 9 0;sieve 0;sieve 2;");
            due("falls", x.through(0, 0), 1);
            due("stays", x.through(0, 1), 16);
            due("all falls", x.through(1, 0), 17);
            due("none stays", x.through(1, 1), 0);
            Bench.work(x, "tear 0;");
            due("each half cut", x.through(0, 0), 1 + 1 + 1 + 0);
            due("stays", x.through(0, 1), 14);
            due("no JARS", Bench.of("sieve 0;").through(0, 1), 0);
        });
    }

    private static void years() {
        Bench.edge("A YEAR of so many DAYS (1 to 48), Q (0 to 16): 0 MONEY made in it, 1 GRAMS of all JARS then, 2 GRAMS LOST in it, 3 JARS that are empty then (bits).", () -> {
            SnuffMill x = Bench.of("jar 0 100 0 0;stone 10 0 0;dust 10;");
            bounds(x, "year(1, n, 1, 0)", 0, 16, n -> x.year(1, n, 1, 0));
            bounds(x, "year(1, 0, n, 0)", 1, 48, n -> x.year(1, 0, n, 0));
            due("MONEY", x.year(7, 0, 1, 0), 9);
            due("GRAMS", x.year(7, 0, 1, 1), 0);
            due("LOST", x.year(7, 0, 1, 2), 10);
            due("empty", x.year(7, 0, 1, 3), 1);
            Bench.work(x, "grind 0 0;");
            due("MONEY", x.year(7, 0, 1, 0), 8);
            due("LOST in it alone", x.year(7, 0, 1, 2), 9);
            Bench.work(x, "sell 0;");
            due("MONEY made in it alone", x.year(7, 0, 48, 0), 0);
            due("LOST in it alone", x.year(7, 0, 48, 2), 0);
            answers("any SEED", x, 0, () -> x.year(MIN_VALUE, 0, 1, 0));
            answers("any SEED", x, 0, () -> x.year(MAX_VALUE, 0, 1, 0));
            Bench.law(x, "0");
            due("GRAMS stay", Bench.of("jar 1 2 3 4;jar 5 6 7 8;").year(1, 0, 1, 1), 36);
        });
        Bench.edge("Of so many SEEDS (1 to 10; seed, seed and 1, ..): 0 the least MONEY made in it, 1 the most, 2 by how many a JAR is empty then.", () -> {
            SnuffMill x = Bench.of("jar 10 0 0 0;jar 20 0 0 0;jar 30 0 0 0;jar 40 0 0 0;");
            bounds(x, "span(1, n, 0, 1, 0, 0)", 1, 10, n -> x.span(1, n, 0, 1, 0, 0));
            bounds(x, "span(1, 1, n, 1, 0, 0)", 0, 16, n -> x.span(1, 1, n, 1, 0, 0));
            bounds(x, "span(1, 1, 0, n, 0, 0)", 1, 48, n -> x.span(1, 1, 0, n, 0, 0));
            for (int many = 1; many <= 10; many++) {
                for (int seed : new int[] {3, MAX_VALUE - 2, -4}) {
                    spanDue(x, seed, many);
                }
            }
            Bench.work(x, "sell 3;");
            due("made in it", x.span(3, 10, 0, 1, 1, 0), 3);
            due("empty ahead of it, too", x.span(3, 10, 0, 1, 2, 3), 10);
        });
        Bench.edge("(IllegalArgumentException: no such JAR, also for 0, 1.)", () -> {
            SnuffMill x = Bench.of(MILL);
            for (int what = 0; what < 3; what++) {
                int w = what;
                bounds(x, "span(1, 1, 0, 1, " + what + ", n)", 0, 3, n -> x.span(1, 1, 0, 1, w, n));
            }
            due("never by NoSuchElementException", x.status(0), 0);
            SnuffMill y = new SnuffMill();
            Bench.wrong("no JARS", () -> y.span(1, 1, 0, 1, 0, 0));
            Bench.wrong("no JARS", () -> y.span(1, 1, 0, 1, 0, -1));
        });
    }

    private static void spanDue(SnuffMill x, int seed, int many) {
        int least = MAX_VALUE;
        int most = 0;
        int empty = 0;
        for (int i = 0; i < many; i++) {
            // the SEED's own DRAW, in 64 bits
            long drawn = ((seed + i & 0xffffffffL) * 1103515245L + 12345L) >> 16 & 0x7fff;
            int money = (int) (drawn % 4) + 1;
            least = Math.min(least, money);
            most = Math.max(most, money);
            empty += money == 2 ? 1 : 0;
        }
        String call = "span(" + seed + ", " + many + ", 0, 1, ";
        due(call + "0, 0)", x.span(seed, many, 0, 1, 0, 0), least);
        due(call + "1, 0)", x.span(seed, many, 0, 1, 1, 0), most);
        due(call + "2, 1)", x.span(seed, many, 0, 1, 2, 1), empty);
    }

    private static void images() {
        Bench.edge("An IMAGE of all that WORK changes, and of the WORKS that can be undone: how many there are; -1: there are 3.", () -> {
            SnuffMill x = Bench.of(MILL);
            due("the first", x.image(), 1);
            Bench.work(x, "day;");
            due("the second", x.image(), 2);
            Bench.work(x, "tear 0;grind 0 0;sell 0;");
            due("the third", x.image(), 3);
            String third = Bench.state(x);
            Bench.work(x, "day;");
            due("there are 3", x.image(), -1);
            due("there are 3", x.count(0), 3);
            due("the third is as it was", x.restore(), 2);
            due("count(0)", x.count(0), 2);
            due("DAY", x.told(4), 1);
            due("MONEY", x.told(7), 15);
            due("LOST", x.told(6), 12);
            due("torn", x.told(9), 1);
            due("empty", x.told(8), 3);
            due("WORKS", x.count(2), 2);
            due("an IMAGE again", x.image(), 3);
            Bench.stateDue("all", x, third);
            due("undo one", x.undo(), 1);
            due("undone", x.told(7), 0);
            due("undo two", x.undo(), 0);
            due("undone", x.told(4), 0);
            due("no more", x.undo(), -1);
        });
        Bench.edge("All is as in the latest IMAGE, which is gone: how many are left; -1: there is none.", () -> {
            SnuffMill x = Bench.of(MILL);
            due("none", x.restore(), -1);
            x.image();
            Bench.work(x, "day;");
            x.image();
            for (int i = 0; i < 15; i++) {
                Bench.work(x, "day;tear 1;");
            }
            due("full", Bench.work(x, "day;"), -20);
            Bench.put(x, "jar");
            due("the latest first", x.restore(), 1);
            due("the TAPE is as it was", x.count(1), 20);
            due("DAY", x.told(4), 1);
            due("torn", x.told(9), 0);
            due("there is room again", x.count(2), 1);
            due("the first", x.restore(), 0);
            due("DAY", x.told(4), 0);
            due("WORKS", x.count(2), 0);
            due("none is left", x.restore(), -1);
            due("DAY", x.told(4), 0);
            Bench.law(x, "7");
            x.image();
            Bench.law(x, "8");
            due("restore()", x.restore(), 0);
            due("a LAW is not changed by WORK", x.sneeze(0), 8);
            Bench.work(x, "day;pour 1 1;");
            String before = Bench.state(x);
            due("none", x.restore(), -1);
            Bench.stateDue("-1 does nothing", x, before);
        });
    }

    private static void counts() {
        Bench.edge("How many calls were refused: 0 NoSuchElementException, 1 IllegalArgumentException; NONE for others. (No IMAGE keeps it.)", () -> {
            SnuffMill x = Bench.of(MILL);
            due("status(0)", x.status(0), 0);
            due("status(1)", x.status(1), 0);
            x.image();
            Bench.missing("jar(9, 9)", () -> x.jar(9, 9));
            Bench.missing("like(9)", () -> x.like(9));
            Bench.wrong("told(99)", () -> x.told(99));
            due("status(0)", x.status(0), 2);
            due("status(1)", x.status(1), 1);
            due("status(2)", x.status(2), -1);
            due("status(-1)", x.status(-1), -1);
            due("status(MIN)", x.status(MIN_VALUE), -1);
            due("status(MAX)", x.status(MAX_VALUE), -1);
            x.restore();
            due("no IMAGE keeps it", x.status(0), 2);
            due("no IMAGE keeps it", x.status(1), 1);
            Bench.work(x, "pour 1 1;x");
            Bench.work(x, "pour 1 1;");
            x.undo();
            x.undo();
            x.restore();
            due("FAULTS and REFUSED STEPS are not counted", x.status(0) + x.status(1), 3);
            Bench.mill(x, "");
            due("nor is a MILL a new start", x.status(0), 2);
        });
        Bench.edge("0 IMAGES, 1 bytes of the TAPE, 2 WORKS that can be undone; NONE for others.", () -> {
            SnuffMill x = Bench.of(MILL);
            x.image();
            x.image();
            Bench.work(x, "day;");
            x.feed(1, 2, 3, 4, 5);
            x.feed(1, 2, 3, 4, 5);
            due("count(0)", x.count(0), 2);
            due("count(1)", x.count(1), 40);
            due("count(2)", x.count(2), 1);
            due("count(3)", x.count(3), -1);
            due("count(-1)", x.count(-1), -1);
            due("count(MIN)", x.count(MIN_VALUE), -1);
            due("count(MAX)", x.count(MAX_VALUE), -1);
            due("none of these is refused", x.status(1), 0);
        });
    }
}
