import java.util.NoSuchElementException;

/** A snuff mill, told, worked and asked by numbers; the document's words stand in capitals in the comments. */
public final class SnuffMill {
    public static final int NONE = -1;

    private static final int MOST_JARS = 6;
    private static final int MOST_STONES = 4;
    private static final int MOST_SIEVES = 4;
    private static final int GRAINS = 4;
    private static final int MOST_GRAMS = 9999;
    private static final int MOST_ASKED = 99999;
    private static final int LAST_DAY = 400;
    private static final int RIPE = 50;

    private static final int TAPE_BYTES = 600;
    private static final int LAW_BYTES = 150;
    private static final int WORK_BYTES = 150;
    private static final int STACK_BYTES = 60;
    private static final int BOOK_BYTES = 60;

    private static final int CANT_STAND = 1;
    private static final int NO_SUCH_NUMBER = 2;
    private static final int TOO_MANY = 3;
    private static final int MOST_OPEN = 6;
    private static final int TOO_MANY_WORKS = -20;

    private final Tape tape = new Tape();
    private final Past past = new Past();
    private final Program program = new Program();
    private final Year year = new Year();
    private final int[] pairs = new int[MOST_SIEVES * MOST_JARS];
    private final int[] powers = new int[MOST_JARS];
    private final int[] heap = new int[GRAINS];
    private Plan plan = new Plan();
    private Plan spare = new Plan();
    private final Shop now = new Shop(plan);
    /** For what is only asked: nothing that is done here stays. */
    private final Shop trial = new Shop(plan);
    private int refusedSteps;
    private int missing;
    private int wrong;

    public SnuffMill() {
    }

    // ---- texts ----

    public int feed(int a, int b, int c, int d, int e) {
        if (!tape.hasRoom(20)) {
            return NONE;
        }
        tape.put(a);
        tape.put(b);
        tape.put(c);
        tape.put(d);
        tape.put(e);
        return tape.held;
    }

    public int mill(int n) throws IllegalArgumentException {
        openText(n, TAPE_BYTES);
        spare.readClauses(tape);
        if (tape.isSound()) {
            Plan old = plan;
            plan = spare;
            spare = old;
            now.begin(plan);
            trial.begin(plan);
            past.forget();
            refusedSteps = 0;
        }
        return textAnswer(plan.jars);
    }

    public int law(int n) throws IllegalArgumentException {
        openText(n, LAW_BYTES);
        plan.law.readLaw(tape);
        return textAnswer(1);
    }

    public int work(int n) throws IllegalArgumentException {
        openText(n, WORK_BYTES);
        if (past.isFull()) {
            return TOO_MANY_WORKS;
        }
        program.readWork(tape, plan);
        if (tape.isSound()) {
            past.keepWork(now);
            program.runSteps(now, 0, program.steps, 0);
            refusedSteps = program.refused;
        }
        return textAnswer(program.done);
    }

    public int stack(int n) throws IllegalArgumentException {
        openText(n, STACK_BYTES);
        plan.readStack(tape);
        return textAnswer(plan.stacked);
    }

    public int book(int n) throws IllegalArgumentException {
        openText(n, BOOK_BYTES);
        plan.readBook(tape);
        return textAnswer(plan.lines);
    }

    public int fault() {
        return tape.place;
    }

    // ---- what is where ----

    public int told(int what) throws IllegalArgumentException {
        need(isWithin(what, 0, 12));
        switch (what) {
            case 0: return plan.jars;
            case 1: return plan.stones;
            case 2: return plan.sieves;
            case 3: return plan.dust;
            case 4: return now.row[Shop.DAY];
            case 5: return now.gramsOfAll();
            case 6: return now.row[Shop.LOST];
            case 7: return now.row[Shop.MONEY];
            case 8: return now.emptyBits();
            case 9: return now.row[Shop.TORN];
            case 10: return refusedSteps;
            case 11: return plan.stacked;
            default: return plan.lines;
        }
    }

    public int jar(int jar, int what) throws NoSuchElementException, IllegalArgumentException {
        needJar(jar);
        need(isWithin(what, 0, 6));
        switch (what) {
            case 4: return now.allOf(jar);
            case 5: return now.ageOf(jar);
            case 6: return now.finenessOf(jar);
            default: return now.gramsOf(jar, what);
        }
    }

    public int stone(int stone, int what) throws NoSuchElementException, IllegalArgumentException {
        needStone(stone);
        need(isWithin(what, 0, 2));
        return plan.shareOf(stone, what);
    }

    public int sieve(int sieve, int what) throws NoSuchElementException, IllegalArgumentException {
        needSieve(sieve);
        need(isWithin(what, 0, 1));
        if (what == 0) {
            return plan.meshes[sieve];
        }
        return now.isTorn(sieve) ? 1 : 0;
    }

    public int space(int jar) throws NoSuchElementException {
        needJar(jar);
        return MOST_GRAMS - now.allOf(jar);
    }

    public int oldest(int what) throws IllegalArgumentException {
        need(isWithin(what, 0, 1));
        int best = NONE;
        for (int jar = 0; jar < plan.jars; jar++) {
            if (now.allOf(jar) > 0 && (best == NONE || now.ageOf(jar) > now.ageOf(best))) {
                best = jar;
            }
        }
        return what == 0 || best == NONE ? best : now.ageOf(best);
    }

    public int amount(int grain, int what) throws IllegalArgumentException {
        need(isWithin(grain, 0, GRAINS - 1) && isWithin(what, 0, 1));
        int sum = 0;
        int best = NONE;
        int most = 0;
        for (int jar = 0; jar < plan.jars; jar++) {
            int grams = now.gramsOf(jar, grain);
            sum += grams;
            if (grams > most) {
                most = grams;
                best = jar;
            }
        }
        return what == 0 ? sum : best;
    }

    public int even() {
        int bits = 0;
        for (int jar = 0; jar < plan.jars; jar++) {
            if (now.grainsIn(jar) == 1) {
                bits |= 1 << jar;
            }
        }
        return bits;
    }

    public int like(int jar) throws NoSuchElementException {
        needJar(jar);
        int best = NONE;
        int least = 0;
        for (int other = 0; other < plan.jars; other++) {
            int apart = Math.abs(now.finenessOf(other) - now.finenessOf(jar));
            if (other != jar && now.allOf(other) > 0 && (best == NONE || apart < least)) {
                best = other;
                least = apart;
            }
        }
        return best;
    }

    // ---- sneezes ----

    public int sneeze(int jar) throws NoSuchElementException {
        needJar(jar);
        return now.powerOf(jar);
    }

    public int would(int fine, int mid, int coarse, int husk, int age, int day, int jar)
            throws IllegalArgumentException {
        need(isWithin(fine, 0, MOST_GRAMS) && isWithin(mid, 0, MOST_GRAMS)
                && isWithin(coarse, 0, MOST_GRAMS) && isWithin(husk, 0, MOST_GRAMS)
                && isWithin(age, 0, LAST_DAY) && isWithin(day, 0, LAST_DAY)
                && isWithin(jar, 0, MOST_JARS - 1));
        return plan.law.power(fine, mid, coarse, husk, age, day, jar);
    }

    public int sharpest(int what) throws IllegalArgumentException {
        need(isWithin(what, 0, 1));
        int best = NONE;
        int most = NONE;
        for (int jar = 0; jar < plan.jars; jar++) {
            int power = now.allOf(jar) > 0 ? now.powerOf(jar) : NONE;
            if (power > most) {
                most = power;
                best = jar;
            }
        }
        return what == 0 ? best : most;
    }

    public int ripe() {
        int bits = 0;
        for (int jar = 0; jar < plan.jars; jar++) {
            if (now.canSell(jar)) {
                bits |= 1 << jar;
            }
        }
        return bits;
    }

    public int worth() {
        int money = 0;
        for (int jar = 0; jar < plan.jars; jar++) {
            if (now.canSell(jar)) {
                money += now.allOf(jar) / 10;
            }
        }
        return money;
    }

    public int blend(int jar, int other) throws NoSuchElementException {
        needJar(jar);
        needJar(other);
        trial.copyFrom(now);
        return trial.pourJar(jar, other) ? trial.powerOf(other) : NONE;
    }

    public int ripens(int jar) throws NoSuchElementException {
        needJar(jar);
        trial.copyFrom(now);
        for (int days = 0; days <= 99; days++) {
            if (trial.canSell(jar)) {
                return days;
            }
            if (!trial.passDay()) {
                return NONE;
            }
        }
        return NONE;
    }

    // ---- what grinding and sifting would leave ----

    public int ground(int stone, int jar, int what) throws NoSuchElementException, IllegalArgumentException {
        needStone(stone);
        needJar(jar);
        need(isWithin(what, 0, GRAINS));
        trial.copyFrom(now);
        trial.grindJar(stone, jar);
        if (what == GRAINS) {
            return trial.row[Shop.LOST] - now.row[Shop.LOST];
        }
        return trial.gramsOf(jar, what);
    }

    public int falls(int sieve, int jar, int what) throws NoSuchElementException, IllegalArgumentException {
        needSieve(sieve);
        needJar(jar);
        need(isWithin(what, 0, GRAINS));
        return what == GRAINS ? now.fallOfAll(sieve, jar) : now.fallOf(sieve, jar, what);
    }

    public int milled(int jar, int stone, int n) throws NoSuchElementException, IllegalArgumentException {
        needJar(jar);
        needStone(stone);
        need(isWithin(n, 0, 1000));
        if (now.allOf(jar) == 0) {
            return NONE;
        }
        trial.copyFrom(now);
        for (int times = 0; times <= 99; times++) {
            if (trial.finenessOf(jar) >= n) {
                return times;
            }
            trial.grindJar(stone, jar);
        }
        return NONE;
    }

    public int stays(int jar, int k) throws NoSuchElementException, IllegalArgumentException {
        needJar(jar);
        need(k >= 0);
        if (k > plan.stacked) {
            return NONE;
        }
        int left = 0;
        for (int grain = 0; grain < GRAINS; grain++) {
            heap[grain] = now.gramsOf(jar, grain);
            left += heap[grain];
        }
        int stayed = 0;
        for (int i = 0; i <= k && i < plan.stacked; i++) {
            stayed = left - dropHeap(plan.stack[i]);
            left -= stayed;
        }
        return k == plan.stacked ? left : stayed;
    }

    public int passes(int sieve) throws NoSuchElementException {
        needSieve(sieve);
        int bits = 0;
        for (int jar = 0; jar < plan.jars; jar++) {
            int all = now.allOf(jar);
            if (all > 0 && now.fallOfAll(sieve, jar) == all) {
                bits |= 1 << jar;
            }
        }
        return bits;
    }

    public int through(int sieve, int what) throws NoSuchElementException, IllegalArgumentException {
        needSieve(sieve);
        need(isWithin(what, 0, 1));
        int fallen = 0;
        for (int jar = 0; jar < plan.jars; jar++) {
            fallen += now.fallOfAll(sieve, jar);
        }
        return what == 0 ? fallen : now.gramsOfAll() - fallen;
    }

    // ---- lots of jars ----

    public int halves(int jars, int what) throws IllegalArgumentException {
        need(isJars(jars) && isWithin(what, 0, 1));
        int first = jars & -jars;
        int all = gramsIn(jars);
        int least = all;
        int best = jars;
        for (int lot = 0; lot <= jars; lot++) {
            if ((lot & ~jars) == 0 && (lot & first) == first) {
                int apart = Math.abs(all - 2 * gramsIn(lot));
                if (apart < least || apart == least && lot < best) {
                    least = apart;
                    best = lot;
                }
            }
        }
        return what == 0 ? least : best;
    }

    public int box(int jars, int n, int what) throws IllegalArgumentException {
        need(isJars(jars) && isWithin(n, 0, MOST_ASKED) && isWithin(what, 0, 2));
        int full = jars & ~now.emptyBits();
        weighPowers();
        int best = 0;
        for (int lot = 1; lot <= full; lot++) {
            if ((lot & ~full) == 0 && gramsIn(lot) <= n && isBetterBox(lot, best)) {
                best = lot;
            }
        }
        switch (what) {
            case 0: return powerIn(best);
            case 1: return gramsIn(best);
            default: return best;
        }
    }

    public int shelf(int jar, int jars, int n) throws NoSuchElementException, IllegalArgumentException {
        needJar(jar);
        need(isJars(jars) && isWithin(n, 0, MOST_ASKED));
        if ((jars >> jar & 1) == 0) {
            return 0;
        }
        int bound = 0;
        int above = MOST_GRAMS + 1;
        for (int halvings = 0; halvings < 32 && above - bound > 1; halvings++) {
            int middle = (bound + above) / 2;
            if (givenBy(jars, middle) <= n) {
                bound = middle;
            } else {
                above = middle;
            }
        }
        return Math.min(now.allOf(jar), bound);
    }

    // ---- which sieve sifted which jar ----

    public int fits(int what) throws IllegalArgumentException {
        need(isWithin(what, 0, 1));
        int many = gatherPairs();
        if (what == 0) {
            return many;
        }
        return many > 0 ? pairs[0] : NONE;
    }

    public int look(int what) throws IllegalArgumentException {
        need(isWithin(what, 0, 1));
        int many = gatherPairs();
        int best = NONE;
        int least = NONE;
        for (int grain = 0; grain < GRAINS; grain++) {
            if (plan.fallen[grain] == NONE) {
                int worst = worstLeft(grain, many);
                if (best == NONE || worst < least) {
                    best = grain;
                    least = worst;
                }
            }
        }
        return what == 0 ? best : least;
    }

    // ---- chance, and two shops ----

    public long fit(int n, int k, int q, int half) throws IllegalArgumentException {
        need(isWithin(n, 0, 12) && isWithin(k, 0, 13) && isWithin(q, 0, 16) && isWithin(half, 0, 1));
        long above = 0;
        for (int hits = k; hits <= n; hits++) {
            above += waysOf(n, hits) * powerTo(q, hits) * powerTo(16 - q, n - hits);
        }
        long below = powerTo(16, n);
        if (above == 0) {
            below = 1;
        }
        // the denominator is a power of 2, so halving is all that reduces
        for (int i = 0; i < 48 && above % 2 == 0 && below % 2 == 0; i++) {
            above /= 2;
            below /= 2;
        }
        return half == 0 ? above : below;
    }

    public int shops(int v, int w, int what) throws IllegalArgumentException {
        need(isWithin(v, 0, 99) && isWithin(w, 0, 99) && isWithin(what, 0, 2));
        int many = 0;
        int first = NONE;
        int together = 0;
        for (int both = 0; both < 4; both++) {
            int one = both / 2;
            int other = both % 2;
            int ofOne = shareBy(one, other, v, w);
            int ofOther = shareBy(other, one, v, w);
            if (shareBy(1 - one, other, v, w) <= ofOne && shareBy(1 - other, one, v, w) <= ofOther) {
                if (many == 0) {
                    first = 10 * one + other;
                    together = ofOne + ofOther;
                }
                many++;
            }
        }
        switch (what) {
            case 0: return many;
            case 1: return first;
            default: return together;
        }
    }

    // ---- years ----

    public int year(int seed, int q, int days, int what) throws IllegalArgumentException {
        need(isWithin(q, 0, 16) && isWithin(days, 1, 48) && isWithin(what, 0, 3));
        trial.copyFrom(now);
        year.live(trial, seed, q, days);
        switch (what) {
            case 0: return trial.row[Shop.MONEY] - now.row[Shop.MONEY];
            case 1: return trial.gramsOfAll();
            case 2: return trial.row[Shop.LOST] - now.row[Shop.LOST];
            default: return trial.emptyBits();
        }
    }

    public int span(int seed, int many, int q, int days, int what, int jar) throws IllegalArgumentException {
        need(isWithin(many, 1, 10) && isWithin(q, 0, 16) && isWithin(days, 1, 48)
                && isWithin(what, 0, 2) && isWithin(jar, 0, plan.jars - 1));
        int least = Integer.MAX_VALUE;
        int most = 0;
        int empty = 0;
        for (int i = 0; i < many; i++) {
            trial.copyFrom(now);
            year.live(trial, seed + i, q, days);
            int made = trial.row[Shop.MONEY] - now.row[Shop.MONEY];
            least = Math.min(least, made);
            most = Math.max(most, made);
            empty += trial.allOf(jar) == 0 ? 1 : 0;
        }
        switch (what) {
            case 0: return least;
            case 1: return most;
            default: return empty;
        }
    }

    // ---- work undone, images, counts ----

    public int undo() {
        if (past.works == 0) {
            return -1;
        }
        past.takeWork(now);
        refusedSteps = 0;
        return past.works;
    }

    public int image() {
        if (past.images == Past.MOST_IMAGES) {
            return -1;
        }
        past.keepImage(now);
        return past.images;
    }

    public int restore() {
        if (past.images == 0) {
            return -1;
        }
        past.takeImage(now);
        refusedSteps = 0;
        return past.images;
    }

    public int status(int what) {
        switch (what) {
            case 0: return missing;
            case 1: return wrong;
            default: return NONE;
        }
    }

    public int count(int what) {
        switch (what) {
            case 0: return past.images;
            case 1: return tape.held;
            case 2: return past.works;
            default: return NONE;
        }
    }

    // ---- refusals ----

    private void needJar(int jar) {
        needThere(isWithin(jar, 0, plan.jars - 1));
    }

    private void needStone(int stone) {
        needThere(isWithin(stone, 0, plan.stones - 1));
    }

    private void needSieve(int sieve) {
        needThere(isWithin(sieve, 0, plan.sieves - 1));
    }

    private void needThere(boolean there) {
        if (!there) {
            missing++;
            throw new NoSuchElementException("no such jar, stone or sieve");
        }
    }

    private void need(boolean right) {
        if (!right) {
            wrong++;
            throw new IllegalArgumentException("a number out of its bounds");
        }
    }

    private boolean isJars(int bits) {
        return isWithin(bits, 0, (1 << plan.jars) - 1);
    }

    private static boolean isWithin(int value, int least, int most) {
        return value >= least && value <= most;
    }

    // ---- helpers of the texts ----

    private void openText(int n, int most) {
        need(isWithin(n, 0, Math.min(most, tape.held)));
        tape.open(n);
    }

    private int textAnswer(int value) {
        return tape.isSound() ? value : tape.flaw - 10;
    }

    // ---- helpers of the questions ----

    /** Lets the heap fall through a SIEVE: GRAMS that fell. */
    private int dropHeap(int sieve) {
        int fallen = 0;
        for (int grain = 0; grain < GRAINS; grain++) {
            heap[grain] = now.fallOfGrams(sieve, grain, heap[grain]);
            fallen += heap[grain];
        }
        return fallen;
    }

    private int gramsIn(int lot) {
        int sum = 0;
        for (int jar = 0; jar < plan.jars; jar++) {
            if ((lot >> jar & 1) == 1) {
                sum += now.allOf(jar);
            }
        }
        return sum;
    }

    /** The LAW is dear, and a BOX asks the same JARS again and again. */
    private void weighPowers() {
        for (int jar = 0; jar < plan.jars; jar++) {
            powers[jar] = now.powerOf(jar);
        }
    }

    private int powerIn(int lot) {
        int sum = 0;
        for (int jar = 0; jar < plan.jars; jar++) {
            if ((lot >> jar & 1) == 1) {
                sum += powers[jar];
            }
        }
        return sum;
    }

    private boolean isBetterBox(int lot, int best) {
        int more = powerIn(lot) - powerIn(best);
        return more > 0 || more == 0 && gramsIn(lot) < gramsIn(best);
    }

    private int givenBy(int jars, int bound) {
        int given = 0;
        for (int jar = 0; jar < plan.jars; jar++) {
            if ((jars >> jar & 1) == 1) {
                given += Math.min(now.allOf(jar), bound);
            }
        }
        return given;
    }

    /** Writes the FITS into pairs: how many. */
    private int gatherPairs() {
        int many = 0;
        for (int sieve = 0; sieve < plan.sieves; sieve++) {
            for (int jar = 0; jar < plan.jars; jar++) {
                if (now.allOf(jar) > 0 && isByBook(sieve, jar)) {
                    pairs[many] = 10 * sieve + jar;
                    many++;
                }
            }
        }
        return many;
    }

    private boolean isByBook(int sieve, int jar) {
        for (int grain = 0; grain < GRAINS; grain++) {
            int fallen = plan.fallen[grain];
            if (fallen != NONE && fallen != now.fallOf(sieve, jar, grain)) {
                return false;
            }
        }
        return true;
    }

    private int worstLeft(int grain, int many) {
        int worst = 0;
        for (int i = 0; i < many; i++) {
            int alike = 0;
            for (int j = 0; j < many; j++) {
                if (fallOfPair(pairs[i], grain) == fallOfPair(pairs[j], grain)) {
                    alike++;
                }
            }
            worst = Math.max(worst, alike);
        }
        return worst;
    }

    private int fallOfPair(int pair, int grain) {
        return now.fallOf(pair / 10, pair % 10, grain);
    }

    private static long waysOf(int n, int k) {
        long ways = 1;
        for (int i = 1; i <= k; i++) {
            ways = ways * (n - k + i) / i;
        }
        return ways;
    }

    private static long powerTo(int base, int exponent) {
        long power = 1;
        for (int i = 0; i < exponent; i++) {
            power *= base;
        }
        return power;
    }

    /** What a shop has that does the one thing (0 by day, 1 by night) while the other shop does the other. */
    private static int shareBy(int own, int other, int v, int w) {
        int gain = own == 0 ? v : w;
        return own == other ? gain / 2 : gain;
    }

    /** The TAPE, and the text at its head, read from the left up to its first FAULT. */
    private static final class Tape {
        private final byte[] bytes = new byte[TAPE_BYTES];
        private int end;
        private int at;
        int held;
        int flaw;
        int place = NONE;

        boolean hasRoom(int more) {
            return held + more <= bytes.length;
        }

        void put(int number) {
            for (int shift = 24; shift >= 0 && hasRoom(1); shift -= 8) {
                bytes[held] = (byte) (number >> shift);
                held++;
            }
        }

        /** The TAPE is empty behind a text, whatever comes of it. */
        void open(int n) {
            end = Math.min(n, held);
            at = 0;
            held = 0;
            flaw = 0;
            place = NONE;
        }

        boolean isSound() {
            return flaw == 0;
        }

        /** Only the first one counts. */
        void fail(int reason, int where) {
            if (flaw == 0) {
                flaw = reason;
                place = where;
            }
        }

        /** The place of what stands next, behind the blanks. */
        int nextPlace() {
            while (at < end && bytes[at] == ' ') {
                at++;
            }
            return at;
        }

        /** The byte that stands next; NONE at the end. */
        int nextByte() {
            return nextPlace() < end ? bytes[at] & 255 : NONE;
        }

        boolean hasMore() {
            return isSound() && nextPlace() < end;
        }

        boolean isDigitNext() {
            int next = nextPlace();
            return next < end && bytes[next] >= '0' && bytes[next] <= '9';
        }

        void needEnd() {
            if (hasMore()) {
                fail(CANT_STAND, at);
            }
        }

        /** Which of the signs stands next, and is taken; NONE, taking nothing. */
        int takeSign(String signs) {
            int from = nextPlace();
            for (int i = 0; i < signs.length() && from < end; i++) {
                if (bytes[from] == signs.charAt(i)) {
                    at++;
                    return i;
                }
            }
            return NONE;
        }

        void needSign(String sign) {
            if (isSound() && takeSign(sign) == NONE) {
                fail(CANT_STAND, at);
            }
        }

        /** A number from 0 to most; 0 behind a FAULT. */
        int needNumber(int most) {
            if (!isSound()) {
                return 0;
            }
            if (!isDigitNext()) {
                fail(CANT_STAND, at);
                return 0;
            }
            int from = at;
            int value = 0;
            while (at < end && bytes[at] >= '0' && bytes[at] <= '9') {
                // no bound is above 9,999, so more digits may not grow it further, lest it wraps
                value = Math.min(value * 10 + bytes[at] - '0', MOST_ASKED);
                at++;
            }
            if (value > most) {
                fail(NO_SUCH_NUMBER, from);
                return 0;
            }
            return value;
        }

        /** Which of the known words (parted by blanks) stands next; NONE behind a FAULT. */
        int needWord(String known) {
            int from = nextPlace();
            int to = from;
            while (to < end && bytes[to] >= 'a' && bytes[to] <= 'z') {
                to++;
            }
            int which = 0;
            int start = 0;
            for (int i = 0; i <= known.length() && isSound(); i++) {
                if (i == known.length() || known.charAt(i) == ' ') {
                    if (i - start == to - from && isSpelled(known, start, from, to - from)) {
                        at = to;
                        return which;
                    }
                    which++;
                    start = i + 1;
                }
            }
            fail(CANT_STAND, from);
            return NONE;
        }

        private boolean isSpelled(String known, int start, int from, int length) {
            for (int i = 0; i < length; i++) {
                if (known.charAt(start + i) != bytes[from + i]) {
                    return false;
                }
            }
            return true;
        }
    }

    /** What the MILL tells, and what hangs on it: its LAW, STACK and BOOK go when another MILL comes. */
    private static final class Plan {
        private static final String WORDS = "jar stone sieve dust";
        private static final int MOST_CLAUSES = 60;
        private static final int MOST_STACKED = 8;
        private static final int SHARES = 3;

        int jars;
        int stones;
        int sieves;
        int dust = 5;
        int stacked;
        int lines;
        final int[] grams = new int[MOST_JARS * GRAINS];
        private final int[] shares = new int[MOST_STONES * SHARES];
        final int[] meshes = new int[MOST_SIEVES];
        final int[] stack = new int[MOST_STACKED];
        private final int[] draft = new int[MOST_STACKED];
        /** By GRAIN: GRAMS that fell by the BOOK; NONE without a line. */
        final int[] fallen = {NONE, NONE, NONE, NONE};
        final Law law = new Law();

        /** Of 10, of GRAIN which + 1. */
        int shareOf(int stone, int which) {
            return shares[stone * SHARES + which];
        }

        void readClauses(Tape text) {
            clear();
            for (int clause = 0; clause <= MOST_CLAUSES && text.hasMore(); clause++) {
                int from = text.nextPlace();
                int word = text.needWord(WORDS);
                if (word != NONE && (clause == MOST_CLAUSES || hasTooMany(word))) {
                    text.fail(TOO_MANY, from);
                }
                if (text.isSound()) {
                    readClause(text, word);
                }
                text.needSign(";");
            }
        }

        private void clear() {
            jars = 0;
            stones = 0;
            sieves = 0;
            dust = 5;
            stacked = 0;
            lines = 0;
            for (int grain = 0; grain < GRAINS; grain++) {
                fallen[grain] = NONE;
            }
            law.clear();
        }

        private boolean hasTooMany(int word) {
            switch (word) {
                case 0: return jars == MOST_JARS;
                case 1: return stones == MOST_STONES;
                case 2: return sieves == MOST_SIEVES;
                default: return false;
            }
        }

        private void readClause(Tape text, int word) {
            switch (word) {
                case 0:
                    readNumbers(text, grams, jars * GRAINS, GRAINS, 999);
                    jars++;
                    break;
                case 1:
                    readNumbers(text, shares, stones * SHARES, SHARES, 10);
                    stones++;
                    break;
                case 2:
                    readNumbers(text, meshes, sieves, 1, 2);
                    sieves++;
                    break;
                default:
                    dust = text.needNumber(50);
                    break;
            }
        }

        private static void readNumbers(Tape text, int[] into, int from, int many, int most) {
            for (int i = from; i < from + many && i < into.length; i++) {
                into[i] = text.needNumber(most);
            }
        }

        void readStack(Tape text) {
            int read = 0;
            for (int i = 0; i <= MOST_STACKED && text.hasMore(); i++) {
                int from = text.nextPlace();
                int sieve = text.needNumber(sieves - 1);
                if (i == MOST_STACKED) {
                    text.fail(TOO_MANY, from);
                } else {
                    draft[i] = sieve;
                    read = i + 1;
                }
                text.needSign(";");
            }
            if (text.isSound()) {
                System.arraycopy(draft, 0, stack, 0, MOST_STACKED);
                stacked = read;
            }
        }

        void readBook(Tape text) {
            for (int grain = 0; grain < GRAINS; grain++) {
                draft[grain] = NONE;
            }
            int read = 0;
            for (int i = 0; i <= GRAINS && text.hasMore(); i++) {
                int from = text.nextPlace();
                int grain = text.needNumber(GRAINS - 1);
                if (draft[grain] != NONE) {
                    text.fail(NO_SUCH_NUMBER, from);
                }
                draft[grain] = text.needNumber(MOST_GRAMS);
                text.needSign(";");
                read = i + 1;
            }
            if (text.isSound()) {
                System.arraycopy(draft, 0, fallen, 0, GRAINS);
                lines = read;
            }
        }
    }

    /** The LAW, as a row of values and signs, each sign behind what it joins. */
    private static final class Law {
        private static final String WORDS = "fine mid coarse husk all age day jar least most";
        private static final int NAMES = 8;
        /** In the row, what is below is a number, from here on a name. */
        private static final int NAME = 1000;
        private static final int PLUS = 2000;
        private static final int MINUS = 2001;
        private static final int TIMES = 2002;
        private static final int BY = 2003;
        private static final int REST = 2004;
        private static final int LEAST = 2005;
        private static final int MOST_POWER = 99;

        private final int[] code = new int[LAW_BYTES];
        private final int[] draft = new int[LAW_BYTES];
        private final int[] pile = new int[LAW_BYTES];
        private final int[] named = new int[NAMES];
        private int length;
        private int drafted;

        void clear() {
            length = 0;
        }

        void readLaw(Tape text) {
            drafted = 0;
            readSum(text, 0);
            text.needEnd();
            if (text.isSound()) {
                System.arraycopy(draft, 0, code, 0, LAW_BYTES);
                length = drafted;
            }
        }

        private void readSum(Tape text, int open) {
            readProduct(text, open);
            for (int i = 0; i < LAW_BYTES && text.isSound(); i++) {
                int sign = text.takeSign("+-");
                if (sign == NONE) {
                    return;
                }
                readProduct(text, open);
                add(PLUS + sign);
            }
        }

        private void readProduct(Tape text, int open) {
            readUnit(text, open);
            for (int i = 0; i < LAW_BYTES && text.isSound(); i++) {
                int sign = text.takeSign("*/%");
                if (sign == NONE) {
                    return;
                }
                readUnit(text, open);
                add(TIMES + sign);
            }
        }

        private void readUnit(Tape text, int open) {
            if (text.isDigitNext()) {
                add(text.needNumber(999));
                return;
            }
            int from = text.nextPlace();
            boolean bracket = text.takeSign("(") != NONE;
            int word = bracket ? NONE : text.needWord(WORDS);
            if (word != NONE && word < NAMES) {
                add(NAME + word);
                return;
            }
            if (open >= MOST_OPEN) {
                text.fail(TOO_MANY, from);
            }
            if (!text.isSound()) {
                return;
            }
            if (bracket) {
                readSum(text, open + 1);
                text.needSign(")");
            } else {
                text.needSign("[");
                readSum(text, open + 1);
                text.needSign(",");
                readSum(text, open + 1);
                text.needSign("]");
                add(LEAST + word - NAMES);
            }
        }

        private void add(int value) {
            if (drafted < draft.length) {
                draft[drafted] = value;
                drafted++;
            }
        }

        /** SNEEZE of a JAR that is such. */
        int power(int fine, int mid, int coarse, int husk, int age, int day, int jar) {
            int all = fine + mid + coarse + husk;
            if (length == 0) {
                return all >= 0 ? bounded(fine * 90 / (all + 1)) : 0;
            }
            named[0] = fine;
            named[1] = mid;
            named[2] = coarse;
            named[3] = husk;
            named[4] = all;
            named[5] = age;
            named[6] = day;
            named[7] = jar;
            int top = 0;
            for (int i = 0; i < length; i++) {
                int value = code[i];
                if (value < PLUS) {
                    pile[top] = value < NAME ? value : named[value - NAME];
                    top++;
                } else if (top > 1) {
                    top--;
                    pile[top - 1] = joined(value, pile[top - 1], pile[top]);
                }
            }
            return bounded(pile[0]);
        }

        private static int bounded(int value) {
            return value < 0 ? 0 : value > MOST_POWER ? MOST_POWER : value;
        }

        private static int joined(int sign, int left, int right) {
            switch (sign) {
                case PLUS: return left + right;
                case MINUS: return left - right;
                case TIMES: return left * right;
                case BY: return right == 0 ? 0 : left / right;
                case REST: return right == 0 ? 0 : left % right;
                case LEAST: return left <= right ? left : right;
                default: return left >= right ? left : right;
            }
        }
    }

    /** All that WORK changes, in one row that is copied whole, and the STEPS, each true if it was done. */
    private static final class Shop {
        static final int AGES = MOST_JARS * GRAINS;
        static final int TORN = AGES + MOST_JARS;
        static final int DAY = TORN + 1;
        static final int LOST = DAY + 1;
        static final int MONEY = LOST + 1;
        static final int SIZE = MONEY + 1;

        final int[] row = new int[SIZE];
        Plan plan;

        Shop(Plan told) {
            plan = told;
        }

        void begin(Plan told) {
            plan = told;
            for (int i = 0; i < SIZE; i++) {
                row[i] = i < plan.jars * GRAINS ? plan.grams[i] : 0;
            }
        }

        void copyFrom(Shop other) {
            System.arraycopy(other.row, 0, row, 0, SIZE);
        }

        int gramsOf(int jar, int grain) {
            return row[jar * GRAINS + grain];
        }

        int allOf(int jar) {
            int at = jar * GRAINS;
            return row[at] + row[at + 1] + row[at + 2] + row[at + 3];
        }

        int ageOf(int jar) {
            return row[AGES + jar];
        }

        boolean isTorn(int sieve) {
            return (row[TORN] >> sieve & 1) == 1;
        }

        int grainsIn(int jar) {
            int many = 0;
            for (int grain = 0; grain < GRAINS; grain++) {
                many += gramsOf(jar, grain) > 0 ? 1 : 0;
            }
            return many;
        }

        int finenessOf(int jar) {
            int all = allOf(jar);
            return all > 0 ? 1000 * gramsOf(jar, 0) / all : 0;
        }

        int gramsOfAll() {
            int sum = 0;
            for (int jar = 0; jar < plan.jars; jar++) {
                sum += allOf(jar);
            }
            return sum;
        }

        int emptyBits() {
            int bits = 0;
            for (int jar = 0; jar < plan.jars; jar++) {
                if (allOf(jar) == 0) {
                    bits |= 1 << jar;
                }
            }
            return bits;
        }

        int powerOf(int jar) {
            int at = jar * GRAINS;
            return plan.law.power(row[at], row[at + 1], row[at + 2], row[at + 3], ageOf(jar), row[DAY], jar);
        }

        boolean canSell(int jar) {
            return allOf(jar) > 0 && powerOf(jar) >= RIPE;
        }

        /** How much of so many GRAMS of a GRAIN would fall through a SIEVE. */
        int fallOfGrams(int sieve, int grain, int grams) {
            int mesh = plan.meshes[sieve];
            if (grain <= mesh) {
                return grams;
            }
            return grain == mesh + 1 && isTorn(sieve) ? grams / 2 : 0;
        }

        int fallOf(int sieve, int jar, int grain) {
            return fallOfGrams(sieve, grain, gramsOf(jar, grain));
        }

        int fallOfAll(int sieve, int jar) {
            int sum = 0;
            for (int grain = 0; grain < GRAINS; grain++) {
                sum += fallOf(sieve, jar, grain);
            }
            return sum;
        }

        /** No JAR is made empty by it: dust takes half of GRAIN 0 at most, cut. */
        boolean grindJar(int stone, int jar) {
            if (allOf(jar) == 0) {
                return false;
            }
            int at = jar * GRAINS;
            int ofMid = row[at + 1] * plan.shareOf(stone, 0) / 10;
            int ofCoarse = row[at + 2] * plan.shareOf(stone, 1) / 10;
            int ofHusk = row[at + 3] * plan.shareOf(stone, 2) / 10;
            row[at] += ofMid;
            row[at + 1] += ofCoarse - ofMid;
            row[at + 2] += ofHusk - ofCoarse;
            row[at + 3] -= ofHusk;
            int blown = row[at] * plan.dust / 100;
            row[at] -= blown;
            row[LOST] += blown;
            return true;
        }

        boolean siftJar(int sieve, int jar, int under, int over) {
            if (jar == under || jar == over || under == over) {
                return false;
            }
            int all = allOf(jar);
            int fallen = fallOfAll(sieve, jar);
            if (all == 0 || !hasRoom(under, fallen) || !hasRoom(over, all - fallen)) {
                return false;
            }
            for (int grain = 0; grain < GRAINS; grain++) {
                int falls = fallOf(sieve, jar, grain);
                moveGrams(jar, under, grain, falls);
                moveGrams(jar, over, grain, gramsOf(jar, grain));
            }
            row[AGES + jar] = 0;
            return true;
        }

        boolean pourJar(int jar, int into) {
            int all = allOf(jar);
            return all > 0 && scoopJar(jar, into, all);
        }

        boolean scoopJar(int jar, int into, int grams) {
            if (jar == into || allOf(jar) < grams || !hasRoom(into, grams)) {
                return false;
            }
            int left = grams;
            for (int grain = 0; grain < GRAINS; grain++) {
                int taken = Math.min(left, gramsOf(jar, grain));
                moveGrams(jar, into, grain, taken);
                left -= taken;
            }
            if (allOf(jar) == 0) {
                row[AGES + jar] = 0;
            }
            return true;
        }

        void tearSieve(int sieve) {
            row[TORN] ^= 1 << sieve;
        }

        boolean sellJar(int jar) {
            if (!canSell(jar)) {
                return false;
            }
            row[MONEY] += allOf(jar) / 10;
            for (int grain = 0; grain < GRAINS; grain++) {
                row[jar * GRAINS + grain] = 0;
            }
            row[AGES + jar] = 0;
            return true;
        }

        boolean passDay() {
            if (row[DAY] >= LAST_DAY) {
                return false;
            }
            turnDay();
            return true;
        }

        /** A YEAR goes on beyond the last DAY, too. */
        void turnDay() {
            for (int jar = 0; jar < plan.jars; jar++) {
                if (allOf(jar) > 0) {
                    row[AGES + jar]++;
                }
            }
            row[DAY]++;
        }

        private boolean hasRoom(int jar, int more) {
            return allOf(jar) + more <= MOST_GRAMS;
        }

        /** An empty JAR is 0 old, so the older one of both is the greater age. */
        private void moveGrams(int jar, int into, int grain, int grams) {
            if (grams > 0) {
                row[jar * GRAINS + grain] -= grams;
                row[into * GRAINS + grain] += grams;
                row[AGES + into] = Math.max(ageOf(into), ageOf(jar));
            }
        }
    }

    /** WORK, read as a row of STEPS, then done. */
    private static final class Program {
        private static final String WORDS = "grind sift pour scoop tear sell day again";
        private static final int GRIND = 0;
        private static final int SIFT = 1;
        private static final int POUR = 2;
        private static final int SCOOP = 3;
        private static final int TEAR = 4;
        private static final int SELL = 5;
        private static final int DAY = 6;
        private static final int AGAIN = 7;
        private static final int WIDTH = 5;
        private static final int MOST_BEGUN = 200;
        /** The shortest STEP, a day with its sign behind it, has 4 bytes. */
        private static final int MOST_STEPS = WORK_BYTES / 4 + 1;

        private final int[] code = new int[MOST_STEPS * WIDTH];
        private int begun;
        int steps;
        int done;
        int refused;

        void readWork(Tape text, Plan plan) {
            begun = 0;
            steps = 0;
            done = 0;
            refused = 0;
            readSteps(text, plan, 0);
        }

        /** Up to the end of the text, or, inside of an again, up to its bracket. */
        private void readSteps(Tape text, Plan plan, int open) {
            for (int i = 0; i < MOST_STEPS && text.hasMore(); i++) {
                if (open > 0 && text.nextByte() == ']') {
                    return;
                }
                int from = text.nextPlace();
                int word = text.needWord(WORDS);
                if (word == AGAIN && open >= MOST_OPEN) {
                    text.fail(TOO_MANY, from);
                }
                if (text.isSound() && steps < MOST_STEPS) {
                    int at = steps * WIDTH;
                    steps++;
                    code[at] = word;
                    readStep(text, plan, at, open);
                }
                text.needSign(";");
            }
        }

        private void readStep(Tape text, Plan plan, int at, int open) {
            switch (code[at]) {
                case GRIND:
                    code[at + 1] = text.needNumber(plan.stones - 1);
                    code[at + 2] = text.needNumber(plan.jars - 1);
                    break;
                case SIFT:
                    code[at + 1] = text.needNumber(plan.sieves - 1);
                    code[at + 2] = text.needNumber(plan.jars - 1);
                    code[at + 3] = text.needNumber(plan.jars - 1);
                    code[at + 4] = text.needNumber(plan.jars - 1);
                    break;
                case POUR:
                    code[at + 1] = text.needNumber(plan.jars - 1);
                    code[at + 2] = text.needNumber(plan.jars - 1);
                    break;
                case SCOOP:
                    code[at + 1] = text.needNumber(plan.jars - 1);
                    code[at + 2] = text.needNumber(plan.jars - 1);
                    code[at + 3] = readGrams(text);
                    break;
                case TEAR:
                    code[at + 1] = text.needNumber(plan.sieves - 1);
                    break;
                case SELL:
                    code[at + 1] = text.needNumber(plan.jars - 1);
                    break;
                case AGAIN:
                    code[at + 1] = text.needNumber(40);
                    text.needSign("[");
                    readSteps(text, plan, open + 1);
                    text.needSign("]");
                    code[at + 2] = steps;
                    break;
                default:
                    break;
            }
        }

        private static int readGrams(Tape text) {
            int from = text.nextPlace();
            int grams = text.needNumber(999);
            if (grams == 0) {
                text.fail(NO_SUCH_NUMBER, from);
            }
            return grams;
        }

        void runSteps(Shop shop, int from, int to, int depth) {
            int step = from;
            while (step < to && begun < MOST_BEGUN && depth <= MOST_OPEN) {
                int at = step * WIDTH;
                begun++;
                step++;
                if (code[at] == AGAIN) {
                    int behind = code[at + 2];
                    for (int i = 0; i < code[at + 1] && begun < MOST_BEGUN; i++) {
                        runSteps(shop, step, behind, depth + 1);
                    }
                    step = Math.max(step, behind);
                } else if (isDone(shop, at)) {
                    done++;
                } else {
                    refused++;
                }
            }
        }

        private boolean isDone(Shop shop, int at) {
            int first = code[at + 1];
            int second = code[at + 2];
            int third = code[at + 3];
            switch (code[at]) {
                case GRIND: return shop.grindJar(first, second);
                case SIFT: return shop.siftJar(first, second, third, code[at + 4]);
                case POUR: return shop.pourJar(first, second);
                case SCOOP: return shop.scoopJar(first, second, third);
                case SELL: return shop.sellJar(first);
                case DAY: return shop.passDay();
                default:
                    shop.tearSieve(first);
                    return true;
            }
        }
    }

    /** A YEAR by a SEED. */
    private static final class Year {
        private int seed;

        void live(Shop shop, int first, int q, int days) {
            seed = first;
            int jars = shop.plan.jars;
            int stones = shop.plan.stones;
            int sieves = shop.plan.sieves;
            for (int day = 0; day < days; day++) {
                if (jars > 0 && stones > 0) {
                    int stone = draw(stones);
                    shop.grindJar(stone, draw(jars));
                }
                if (jars >= 3 && sieves > 0) {
                    int sieve = draw(sieves);
                    int jar = draw(jars);
                    if (draw(16) < q) {
                        shop.siftJar(sieve, jar, (jar + 1) % jars, (jar + 2) % jars);
                    }
                }
                if (jars > 0) {
                    shop.sellJar(draw(jars));
                }
                shop.turnDay();
            }
        }

        private int draw(int many) {
            seed = seed * 1103515245 + 12345;
            return many > 0 ? (seed >>> 16 & 32767) % many : 0;
        }
    }

    /** Rows of the Shop as they were ahead of each WORK, and the IMAGES: each a row, and such rows behind it. */
    private static final class Past {
        static final int MOST_IMAGES = 3;
        private static final int MOST_WORKS = 16;
        private static final int IMAGE_SIZE = (MOST_WORKS + 1) * Shop.SIZE;

        private final int[] workRows = new int[MOST_WORKS * Shop.SIZE];
        private final int[] imageRows = new int[MOST_IMAGES * IMAGE_SIZE];
        private final int[] imageWorks = new int[MOST_IMAGES];
        int works;
        int images;

        void forget() {
            works = 0;
            images = 0;
        }

        boolean isFull() {
            return works >= MOST_WORKS;
        }

        void keepWork(Shop shop) {
            if (!isFull()) {
                System.arraycopy(shop.row, 0, workRows, works * Shop.SIZE, Shop.SIZE);
                works++;
            }
        }

        void takeWork(Shop shop) {
            if (works > 0) {
                works--;
                System.arraycopy(workRows, works * Shop.SIZE, shop.row, 0, Shop.SIZE);
            }
        }

        void keepImage(Shop shop) {
            if (images < MOST_IMAGES) {
                int at = images * IMAGE_SIZE;
                System.arraycopy(shop.row, 0, imageRows, at, Shop.SIZE);
                System.arraycopy(workRows, 0, imageRows, at + Shop.SIZE, works * Shop.SIZE);
                imageWorks[images] = works;
                images++;
            }
        }

        void takeImage(Shop shop) {
            if (images > 0) {
                images--;
                works = imageWorks[images];
                int at = images * IMAGE_SIZE;
                System.arraycopy(imageRows, at, shop.row, 0, Shop.SIZE);
                System.arraycopy(imageRows, at + Shop.SIZE, workRows, 0, works * Shop.SIZE);
            }
        }
    }
}
