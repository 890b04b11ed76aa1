/**
 * A sweet line: tanks, a belt of moulds, bars, rework, orders, and sheets of numbers.
 *
 * Every refusal is an answer, never an exception. All rows are made in the constructors and used
 * again, so that no call makes an object.
 */
public final class SweetLine {
    public static final int NONE = -1000000, BAD = -1000001, STATE = -1000002, FULL = -1000003;

    private static final int FINDING = -1000010;
    private static final int FOUND_NULL = 1, FOUND_PLACE = 2, FOUND_KIND = 3, FOUND_SIZE = 4, FOUND_STORE = 5;
    private static final int FAULT_AT = -1000100;

    private static final int SHEETS = 8, TANKS = 4, LOTS = 10, TRACED = 16;
    private static final int MOST_STUFF = 99999;
    private static final int KIND_BAR = 0, KIND_FILLED = 1, KIND_NUTTY = 2, KIND_DULL = 3, KIND_RECALLED = 4;

    // Which body begins for a bar of each kind; a kind without one of its own has the nearest kind's.
    private static final int[] SIZE_BODY = {10, 11, 12, 13, 14};
    private static final int[] MARK_BODY = {20, 21, 22, 20, 23};
    // The longest chain is 22, 12, 11, 10.
    private static final int DEEPEST_BODY = 8;

    private final Sheet[] sheets = new Sheet[SHEETS];
    private final Book book = new Book();
    private final Heat trial = new Heat();
    private final Tank[] tanks = new Tank[TANKS];
    private final int[] bins = new int[Book.MOST];
    private final Belt ring = new Belt();
    private final Bars bars = new Bars();
    private final Rows rows = new Rows();
    private final int[] traceNumbers = new int[TRACED];
    private int traced;
    private int filledGrams;
    private int drainedGrams;
    private int finding;

    public SweetLine() {
        for (int k = 0; k < SHEETS; k++) {
            sheets[k] = new Sheet();
        }
        for (int k = 0; k < TANKS; k++) {
            tanks[k] = new Tank();
        }
    }

    // ---- sheets

    public int sheet(int sheet, int lane, int n) {
        if (!isSheet(sheet) || !within(lane, 0, Sheet.INTS) || n > Sheet.MOST) {
            return BAD;
        }
        if (n < 0) {
            return found(FOUND_SIZE);
        }
        sheets[sheet].begin(lane, n);
        return plain(n);
    }

    public int set(int sheet, int i, int v) {
        if (!isSheet(sheet)) {
            return BAD;
        }
        Sheet s = sheets[sheet];
        int amiss = amissIn(s, i, 1);
        if (amiss != 0) {
            return found(amiss);
        }
        s.items[i] = s.narrowed(v);
        return plain(s.items[i]);
    }

    public int copy(int a, int i, int b, int j, int n) {
        if (!isSheet(a) || !isSheet(b)) {
            return BAD;
        }
        Sheet from = sheets[a];
        Sheet to = sheets[b];
        if (from.missing || to.missing) {
            return found(FOUND_NULL);
        }
        if (from.lane != to.lane) {
            return found(FOUND_STORE);
        }
        if (!from.has(i, n) || !to.has(j, n)) {
            return found(FOUND_PLACE);
        }
        System.arraycopy(from.items, i, to.items, j, n);
        return plain(n);
    }

    public int drop(int sheet) {
        if (!isSheet(sheet)) {
            return BAD;
        }
        Sheet s = sheets[sheet];
        if (s.missing) {
            return found(FOUND_NULL);
        }
        s.missing = true;
        return plain(s.size);
    }

    // ---- recipes, tanks

    public int feed(long w, int n) {
        if (!within(n, 1, 8)) {
            return BAD;
        }
        if (!book.tape.hasRoom(n)) {
            return FULL;
        }
        for (int k = n - 1; k >= 0; k--) {
            book.tape.append((byte) (w >>> (8 * k)));
        }
        return book.tape.length;
    }

    public int recipes() {
        boolean readWell = book.readTape();
        book.tape.length = 0;
        return readWell ? book.told : FAULT_AT - book.faultPlace;
    }

    public int fault() {
        return book.faultNumber;
    }

    public int temper(int recipe, int warmth, int seeds, int what) {
        if (!isRecipe(recipe) || !within(warmth, 0, 60) || !within(seeds, 0, Heat.MOST_SEEDS)
                || !within(what, 0, 3)) {
            return BAD;
        }
        trial.begin(warmth, seeds);
        trial.goThrough(book.recipes[recipe]);
        switch (what) {
            case 0: return trial.warmth;
            case 1: return trial.seeds;
            case 2: return trial.state();
            default: return trial.thickness();
        }
    }

    public int fill(int tank, int recipe, int grams, int rework, int lot) {
        if (!isTank(tank) || !isRecipe(recipe) || !within(grams, 1, 20000)
                || !within(rework, 0, grams) || !isLot(lot)) {
            return BAD;
        }
        Tank t = tanks[tank];
        boolean otherRecipe = !t.isEmpty() && t.recipe != recipe;
        int all = t.stuff + grams;
        boolean tooMuchRework = (t.rework + rework) * 100 > book.recipes[recipe].share * all;
        if (otherRecipe || bins[recipe] < rework || tooMuchRework || all > MOST_STUFF) {
            return STATE;
        }
        t.takeIn(recipe, grams, rework, lot);
        bins[recipe] -= rework;
        filledGrams += grams;
        return t.stuff;
    }

    public int ready(int tank) {
        if (!isTank(tank)) {
            return BAD;
        }
        Tank t = tanks[tank];
        if (t.isEmpty()) {
            return STATE;
        }
        t.heat.goThrough(book.recipes[t.recipe]);
        return t.heat.state();
    }

    public int drain(int tank) {
        if (!isTank(tank)) {
            return BAD;
        }
        int had = tanks[tank].stuff;
        tanks[tank].giveOut(had);
        drainedGrams += had;
        return had;
    }

    public int tank(int tank, int what) {
        if (!isTank(tank)) {
            return BAD;
        }
        Tank t = tanks[tank];
        boolean empty = t.isEmpty();
        switch (what) {
            case 0: return t.stuff;
            case 1: return t.rework;
            case 2: return empty ? NONE : t.recipe;
            case 3: return t.lots;
            case 4: return empty ? NONE : t.heat.warmth;
            case 5: return empty ? NONE : t.heat.seeds;
            case 6: return empty ? NONE : t.heat.state();
            default: return BAD;
        }
    }

    // ---- the belt

    public int belt(int n) {
        if (!within(n, Belt.LEAST, Belt.MOST)) {
            return BAD;
        }
        if (ring.fullMoulds() > 0) {
            return STATE;
        }
        int had = ring.n;
        ring.n = n;
        return had;
    }

    public int gear(int what, int v) {
        if (!within(what, 0, Belt.DRIFT) || !within(v, Belt.GEAR_LEAST[what], Belt.GEAR_MOST[what])) {
            return BAD;
        }
        int was = ring.gears[what];
        ring.gears[what] = v;
        return was;
    }

    public int beat(int n) {
        if (!within(n, 1, 100)) {
            return BAD;
        }
        int before = bars.came;
        for (int k = 0; k < n; k++) {
            ring.advance(tanks[ring.gears[Belt.POURING]], bars);
        }
        return bars.came - before;
    }

    public int mould(int station, int what) {
        if (!within(station, 0, ring.n - 1) || !within(what, 0, 5)) {
            return BAD;
        }
        Mould m = ring.moulds[station];
        if (m.isEmpty()) {
            return NONE;
        }
        switch (what) {
            case 0: return m.chocolate;
            case 1: return m.filling;
            case 2: return m.recipe;
            case 3: return m.warmth;
            case 4: return m.shaken ? 1 : 0;
            default: return m.good ? 1 : 0;
        }
    }

    public int correct() {
        if (bars.came == 0) {
            return STATE;
        }
        int step = Integer.compare(ring.gears[Belt.TARGET], bars.recentMean());
        int offset = ring.gears[Belt.OFFSET] + step;
        ring.gears[Belt.OFFSET] = Math.max(Belt.GEAR_LEAST[Belt.OFFSET], Math.min(offset, Belt.GEAR_MOST[Belt.OFFSET]));
        return ring.gears[Belt.OFFSET];
    }

    // ---- bars

    public int bar(int bar, int what) {
        if (!isKept(bar)) {
            return BAD;
        }
        Bar b = bars.rack[bar];
        switch (what) {
            case 0: return b.chocolate;
            case 1: return b.filling;
            case 2: return b.recipe;
            case 3: return b.lots;
            case 4: return b.good ? 1 : 0;
            case 5: return b.beat;
            case 6: return b.melted ? 1 : 0;
            default: return BAD;
        }
    }

    public int recall(int lot) {
        if (!isLot(lot)) {
            return BAD;
        }
        bars.calledBack |= 1 << lot;
        return bars.keptWith(1 << lot);
    }

    public int melt(int bar) {
        if (!isKept(bar)) {
            return BAD;
        }
        Bar b = bars.rack[bar];
        int told = toldKind(b);
        boolean meltable = told == KIND_DULL || told == KIND_RECALLED;
        if (!meltable || b.melted) {
            return STATE;
        }
        b.melted = true;
        bins[b.recipe] += b.chocolate;
        return bins[b.recipe];
    }

    public int bin(int recipe) {
        return isRecipe(recipe) ? bins[recipe] : BAD;
    }

    public int grams(int what) {
        switch (what) {
            case 0: return filledGrams;
            case 1: return gramsInTanks();
            case 2: return ring.gramsInMoulds();
            case 3: return bars.allGrams;
            case 4: return drainedGrams;
            case 5: return bars.givenAway;
            default: return BAD;
        }
    }

    public int bloom(int bar, int sheet, int i, int n, int what) {
        if (!isKept(bar) || !isSheet(sheet) || !within(n, 1, 20) || !within(what, 0, 1)) {
            return BAD;
        }
        Sheet s = sheets[sheet];
        int amiss = amissIn(s, i, 2 * n);
        if (amiss != 0) {
            return found(amiss);
        }
        int used = 0;
        for (int k = i; k < i + 2 * n; k += 2) {
            int days = s.items[k];
            int degrees = s.items[k + 1];
            if (!within(days, 0, 99) || !within(degrees, 0, 60)) {
                return BAD;
            }
            used += days * (100 + 10 * Math.max(0, degrees - 18));
        }
        if (!bars.rack[bar].good) {
            used *= 2;
        }
        int holds = used <= 6000 ? 1 : 0;
        return plain(what == 0 ? used : holds);
    }

    public int orders(int sheet, int i, int n, int k) {
        if (!isSheet(sheet) || !within(n, 1, Rows.MOST) || !within(k, -1, n - 1)) {
            return BAD;
        }
        Sheet s = sheets[sheet];
        int amiss = amissIn(s, i, 3 * n);
        if (amiss != 0) {
            return found(amiss);
        }
        if (!takeOrders(s, i, n)) {
            return BAD;
        }
        rows.findBest(n);
        return plain(k < 0 ? rows.bestCost : rows.best[k]);
    }

    // ---- asked

    public int kind(int bar) {
        return isKept(bar) ? toldKind(bars.rack[bar]) : BAD;
    }

    public int as(int bar, int kind) {
        if (!isKept(bar) || !within(kind, KIND_BAR, KIND_RECALLED)) {
            return BAD;
        }
        int told = toldKind(bars.rack[bar]);
        boolean nuttyAsFilled = told == KIND_NUTTY && kind == KIND_FILLED;
        if (kind != KIND_BAR && kind != told && !nuttyAsFilled) {
            return found(FOUND_KIND);
        }
        return plain(bars.rack[bar].chocolate);
    }

    public int ask(int bar, int what) {
        if (!isKept(bar) || !within(what, 0, 1)) {
            return BAD;
        }
        traced = 0;
        Bar b = bars.rack[bar];
        int told = toldKind(b);
        return body(this, what == 0 ? SIZE_BODY[told] : MARK_BODY[told], b, told, 0);
    }

    public int trace(int i) {
        return within(i, 0, traced - 1) ? traceNumbers[i] : NONE;
    }

    public int count(int what) {
        switch (what) {
            case 0: return sheetsThere();
            case 1: return book.told;
            case 2: return bars.came;
            case 3: return ring.beats;
            case 4: return ring.missed;
            case 5: return ring.fullMoulds();
            case 6: return bars.keptWith(bars.calledBack);
            case 7: return book.tape.length;
            default: return BAD;
        }
    }

    public int status() {
        return finding;
    }

    // ---- within

    private static boolean within(int v, int least, int most) {
        return v >= least && v <= most;
    }

    private static boolean isSheet(int sheet) {
        return within(sheet, 0, SHEETS - 1);
    }

    private static boolean isTank(int tank) {
        return within(tank, 0, TANKS - 1);
    }

    private static boolean isLot(int lot) {
        return within(lot, 0, LOTS - 1);
    }

    private boolean isRecipe(int recipe) {
        return within(recipe, 0, book.told - 1);
    }

    private boolean isKept(int bar) {
        return within(bar, 0, bars.kept - 1);
    }

    private int found(int number) {
        finding = number;
        return FINDING - number;
    }

    /** The finding of n items from i on, or 0. */
    private static int amissIn(Sheet s, int i, int n) {
        if (s.missing) {
            return FOUND_NULL;
        }
        return s.has(i, n) ? 0 : FOUND_PLACE;
    }

    private int plain(int answer) {
        finding = 0;
        return answer;
    }

    private int sheetsThere() {
        int there = 0;
        for (int k = 0; k < SHEETS; k++) {
            if (!sheets[k].missing) {
                there++;
            }
        }
        return there;
    }

    private int gramsInTanks() {
        int sum = 0;
        for (int k = 0; k < TANKS; k++) {
            sum += tanks[k].stuff;
        }
        return sum;
    }

    private boolean takeOrders(Sheet s, int i, int n) {
        for (int k = 0; k < n; k++) {
            int allergens = s.items[i + 3 * k];
            int hours = s.items[i + 3 * k + 1];
            int due = s.items[i + 3 * k + 2];
            if (!within(allergens, 0, 15) || !within(hours, 1, 99) || !within(due, 0, 999)) {
                return false;
            }
            rows.allergens[k] = allergens;
            rows.hours[k] = hours;
            rows.dues[k] = due;
        }
        return true;
    }

    private int toldKind(Bar b) {
        if ((b.lots & bars.calledBack) != 0) {
            return KIND_RECALLED;
        }
        if (!b.good) {
            return KIND_DULL;
        }
        if (b.filling == 0) {
            return KIND_BAR;
        }
        boolean nuts = (book.recipes[b.recipe].allergens & 1) != 0;
        return nuts ? KIND_NUTTY : KIND_FILLED;
    }

    /** What the body of that number gives for a bar of a kind; it leaves its number in the trace of x. */
    private static int body(SweetLine x, int number, Bar b, int told, int depth) {
        if (depth >= DEEPEST_BODY) {
            return 0;
        }
        x.leaveNumber(number);
        int deeper = depth + 1;
        switch (number) {
            case 11: return body(x, 10, b, told, deeper) + b.filling;
            case 12: return 2 * body(x, 11, b, told, deeper);
            case 13: return body(x, 10, b, told, deeper) - body(x, MARK_BODY[told], b, told, deeper);
            case 14: return -body(x, 10, b, told, deeper);
            case 20: return b.beat;
            case 21: return body(x, 20, b, told, deeper) + 1000;
            case 22: return body(x, 21, b, told, deeper) + body(x, SIZE_BODY[told], b, told, deeper);
            case 23: return body(x, 20, b, told, deeper) + b.lots;
            default: return b.chocolate;
        }
    }

    private void leaveNumber(int number) {
        if (traced < TRACED) {
            traceNumbers[traced] = number;
            traced++;
        }
    }

    /** A row of numbers as narrow as its lane. */
    private static final class Sheet {
        static final int MOST = 60;
        static final int BYTES = 0, SHORTS = 1, INTS = 2;

        final int[] items = new int[MOST];
        boolean missing = true;
        int lane;
        int size;

        void begin(int newLane, int n) {
            missing = false;
            lane = newLane;
            size = n;
            for (int k = 0; k < n && k < MOST; k++) {
                items[k] = 0;
            }
        }

        /** Compared by what is left behind i, since i + n could wrap around. */
        boolean has(int i, int n) {
            return i >= 0 && i <= size && n >= 0 && n <= size - i;
        }

        int narrowed(int v) {
            if (lane == BYTES) {
                return (byte) v;
            }
            return lane == SHORTS ? (short) v : v;
        }
    }

    /** Allergens, the share of rework, and stages; a stage without minutes puts seeds in. */
    private static final class Recipe {
        static final int MOST_STAGES = 6;

        int allergens;
        int share;
        int stages;
        final int[] amounts = new int[MOST_STAGES];
        final int[] minutes = new int[MOST_STAGES];
    }

    /** The bytes that were fed, and the token that stands at the reading place. */
    private static final class Tape {
        static final int MOST = 400, MOST_FIGURES = 4;
        static final int END = 0, NAME = 1, NUMBER = 2, SIGN = 3, GAP = 4, NO_TOKEN = 5;

        final byte[] bytes = new byte[MOST];
        int length;
        int token;
        int start;
        int end;
        int number;

        boolean hasRoom(int n) {
            return n <= MOST - length;
        }

        void append(byte b) {
            if (length < MOST) {
                bytes[length] = b;
                length++;
            }
        }

        void rewind() {
            end = 0;
            step();
        }

        void step() {
            start = end;
            while (start < length && kindOf(bytes[start]) == GAP) {
                start++;
            }
            end = start;
            token = start < length ? kindOf(bytes[start]) : END;
            boolean isRun = token == NAME || token == NUMBER;
            int most = isRun ? length : Math.min(length, start + 1);
            while (end < most && kindOf(bytes[end]) == token) {
                end++;
            }
            if (token == NUMBER) {
                takeFigures();
            }
        }

        boolean isWord(String word) {
            if (token != NAME || end - start != word.length()) {
                return false;
            }
            for (int k = 0; k < word.length(); k++) {
                if (bytes[start + k] != word.charAt(k)) {
                    return false;
                }
            }
            return true;
        }

        private void takeFigures() {
            // A longer row of figures is no token at all, not a number out of its range.
            if (end - start > MOST_FIGURES) {
                token = NO_TOKEN;
                return;
            }
            number = 0;
            for (int k = start; k < end; k++) {
                number = number * 10 + (bytes[k] - '0');
            }
        }

        private static int kindOf(byte b) {
            if (b >= 'a' && b <= 'z') {
                return NAME;
            }
            if (b >= '0' && b <= '9') {
                return NUMBER;
            }
            if (b == 32 || b == 10) {
                return GAP;
            }
            return b == ';' ? SIGN : NO_TOKEN;
        }
    }

    /** The recipes that were told, and the reading of more of them from the tape. */
    private static final class Book {
        static final int MOST = 6;
        static final int MISPLACED = 1, OUT_OF_RANGE = 2, ABOVE_LIMIT = 3;

        final Tape tape = new Tape();
        final Recipe[] recipes = new Recipe[MOST];
        int told;
        int faultNumber;
        int faultPlace;
        private int taken;

        Book() {
            for (int k = 0; k < MOST; k++) {
                recipes[k] = new Recipe();
            }
        }

        /** Recipes are read into free slots, which count only when all is read. */
        boolean readTape() {
            int slot = told;
            tape.rewind();
            while (slot <= MOST && tape.token != Tape.END) {
                if (!readRecipe(slot)) {
                    return false;
                }
                slot++;
            }
            told = slot;
            return true;
        }

        private boolean readRecipe(int slot) {
            if (!tape.isWord("recipe")) {
                return refuse(MISPLACED);
            }
            if (slot >= MOST) {
                return refuse(ABOVE_LIMIT);
            }
            tape.step();
            Recipe r = recipes[slot];
            r.stages = 0;
            if (!takeNumber(0, 15)) {
                return false;
            }
            r.allergens = taken;
            if (!takeNumber(0, 50)) {
                return false;
            }
            r.share = taken;
            // The round behind the last stage that may be read always refuses.
            for (int k = 0; k <= Recipe.MOST_STAGES && tape.token != Tape.SIGN; k++) {
                if (!readStage(r)) {
                    return false;
                }
            }
            tape.step();
            return true;
        }

        private boolean readStage(Recipe r) {
            boolean warm = tape.isWord("warm");
            if (!warm && !tape.isWord("seed")) {
                return refuse(MISPLACED);
            }
            if (r.stages >= Recipe.MOST_STAGES) {
                return refuse(ABOVE_LIMIT);
            }
            tape.step();
            if (!(warm ? takeNumber(0, 60) : takeNumber(1, 50))) {
                return false;
            }
            r.amounts[r.stages] = taken;
            if (warm && !takeNumber(1, 60)) {
                return false;
            }
            r.minutes[r.stages] = warm ? taken : 0;
            r.stages++;
            return true;
        }

        private boolean takeNumber(int least, int most) {
            if (tape.token != Tape.NUMBER) {
                return refuse(MISPLACED);
            }
            if (!within(tape.number, least, most)) {
                return refuse(OUT_OF_RANGE);
            }
            taken = tape.number;
            tape.step();
            return true;
        }

        private boolean refuse(int number) {
            faultNumber = number;
            faultPlace = tape.start;
            return false;
        }
    }

    /** A warmth and how many seeds there are at it. */
    private static final class Heat {
        static final int MOST_SEEDS = 999;

        int warmth;
        int seeds;

        void begin(int newWarmth, int newSeeds) {
            warmth = newWarmth;
            seeds = newSeeds;
        }

        void goThrough(Recipe r) {
            for (int k = 0; k < r.stages && k < Recipe.MOST_STAGES; k++) {
                if (r.minutes[k] == 0) {
                    seeds = Math.min(MOST_SEEDS, seeds + r.amounts[k]);
                }
                for (int minute = 0; minute < r.minutes[k]; minute++) {
                    warmth += Integer.compare(r.amounts[k], warmth);
                    seeds = Math.max(0, Math.min(MOST_SEEDS, seedsOneMinuteOn()));
                }
            }
        }

        int state() {
            if (seeds < 10) {
                return 0;
            }
            return seeds <= 60 && within(warmth, 28, 33) ? 1 : 2;
        }

        int thickness() {
            return 100 + 3 * seeds + 10 * Math.max(0, 34 - warmth);
        }

        private int seedsOneMinuteOn() {
            if (warmth < 27) {
                return seeds + seeds * 20 / 100 + 1;
            }
            if (warmth <= 31) {
                return seeds + seeds * 5 / 100;
            }
            return warmth <= 34 ? seeds : seeds - seeds * 30 / 100 - 1;
        }
    }

    /** Stuff of one recipe; without stuff it is empty, whatever its recipe and heat were. */
    private static final class Tank {
        int stuff;
        int rework;
        int recipe;
        int lots;
        final Heat heat = new Heat();

        boolean isEmpty() {
            return stuff == 0;
        }

        void takeIn(int newRecipe, int grams, int newRework, int lot) {
            if (isEmpty()) {
                heat.begin(45, 0);
            }
            recipe = newRecipe;
            stuff += grams;
            rework += newRework;
            lots |= 1 << lot;
        }

        void giveOut(int grams) {
            if (stuff <= grams) {
                stuff = 0;
                rework = 0;
                lots = 0;
                return;
            }
            rework -= rework * grams / stuff;
            stuff -= grams;
        }
    }

    /** A mould of the belt; without chocolate it is empty. */
    private static final class Mould {
        int chocolate;
        int filling;
        int recipe;
        int lots;
        int warmth;
        boolean good;
        boolean shaken;
        boolean wasFilled;

        boolean isEmpty() {
            return chocolate == 0;
        }

        void takeFrom(Tank t, int grams) {
            chocolate = grams;
            filling = 0;
            recipe = t.recipe;
            lots = t.lots;
            warmth = t.heat.warmth;
            good = t.heat.state() == 1;
            shaken = false;
            wasFilled = false;
            t.giveOut(grams);
        }

        void shake() {
            if (!isEmpty()) {
                shaken = true;
            }
        }

        void fillOnce(int grams) {
            if (!isEmpty() && !wasFilled) {
                filling = grams;
                wasFilled = true;
            }
        }

        void cool(int degrees) {
            if (!isEmpty()) {
                warmth = Math.max(5, warmth - degrees);
            }
        }
    }

    /** The ring of moulds by stations, and the gears by the numbers that the calls have for them. */
    private static final class Belt {
        static final int LEAST = 6, MOST = 15, AT_FIRST = 8;
        // The gears between POURING and OFFSET are the cold of the station of that number.
        static final int TARGET = 0, FILLING = 1, POURING = 2, OFFSET = 13, DRIFT = 14;
        static final int[] GEAR_LEAST = {10, 0, 0, 0, 0, 0, 0, 0, 0, 0, 0, 0, 0, -20, -5};
        static final int[] GEAR_MOST = {200, 100, 3, 9, 9, 9, 9, 9, 9, 9, 9, 9, 9, 20, 5};
        static final int[] GEAR_AT_FIRST = {50, 0, 0, 3, 3, 3, 3, 3, 3, 3, 3, 3, 3, 0, 0};

        final Mould[] moulds = new Mould[MOST];
        final int[] gears = GEAR_AT_FIRST.clone();
        int n = AT_FIRST;
        int poured;
        int beats;
        int missed;

        Belt() {
            for (int k = 0; k < MOST; k++) {
                moulds[k] = new Mould();
            }
        }

        void advance(Tank pouring, Bars bars) {
            moveOn();
            pour(moulds[0], pouring);
            moulds[1].shake();
            moulds[2].fillOnce(gears[FILLING]);
            for (int station = 3; station <= n - 3; station++) {
                moulds[station].cool(gears[station]);
            }
            turnOut(moulds[n - 2], bars);
            beats++;
        }

        int fullMoulds() {
            int full = 0;
            for (int k = 0; k < n; k++) {
                if (!moulds[k].isEmpty()) {
                    full++;
                }
            }
            return full;
        }

        int gramsInMoulds() {
            int sum = 0;
            for (int k = 0; k < n; k++) {
                sum += moulds[k].chocolate;
            }
            return sum;
        }

        private void moveOn() {
            Mould last = moulds[n - 1];
            for (int k = n - 1; k > 0; k--) {
                moulds[k] = moulds[k - 1];
            }
            moulds[0] = last;
        }

        private void pour(Mould m, Tank t) {
            int grams = Math.max(1, gears[TARGET] + gears[DRIFT] + gears[OFFSET]);
            if (!m.isEmpty() || t.stuff < grams) {
                return;
            }
            m.takeFrom(t, grams);
            poured++;
            if (poured % 4 == 0) {
                gears[DRIFT] = Math.min(GEAR_MOST[DRIFT], gears[DRIFT] + 1);
            }
        }

        private void turnOut(Mould m, Bars bars) {
            if (m.isEmpty()) {
                return;
            }
            if (m.shaken && m.warmth <= 18) {
                bars.take(m, beats, gears[TARGET]);
                m.chocolate = 0;
            } else {
                missed++;
            }
        }
    }

    private static final class Bar {
        int chocolate;
        int filling;
        int recipe;
        int lots;
        boolean good;
        int beat;
        boolean melted;

        void become(Mould m, int atBeat) {
            chocolate = m.chocolate;
            filling = m.filling;
            recipe = m.recipe;
            lots = m.lots;
            good = m.good;
            beat = atBeat;
        }
    }

    /** The bars that are kept, and the sums over all that came. */
    private static final class Bars {
        static final int MOST = 40, RECENT = 4;

        final Bar[] rack = new Bar[MOST];
        int kept;
        int came;
        int allGrams;
        int givenAway;
        int calledBack;
        // Bars that are not kept count for the mean, too.
        private final int[] recent = new int[RECENT];

        Bars() {
            for (int k = 0; k < MOST; k++) {
                rack[k] = new Bar();
            }
        }

        void take(Mould m, int beat, int target) {
            if (kept < MOST) {
                rack[kept].become(m, beat);
                kept++;
            }
            recent[came & (RECENT - 1)] = m.chocolate;
            came++;
            allGrams += m.chocolate;
            givenAway += Math.max(0, m.chocolate - target);
        }

        int recentMean() {
            int sum = 0;
            for (int k = 0; k < RECENT; k++) {
                sum += recent[k];
            }
            return sum / Math.max(1, Math.min(came, RECENT));
        }

        int keptWith(int lots) {
            int with = 0;
            for (int k = 0; k < kept && k < MOST; k++) {
                if ((rack[k].lots & lots) != 0) {
                    with++;
                }
            }
            return with;
        }
    }

    /** Orders, and the best row of them. */
    private static final class Rows {
        static final int MOST = 7;
        static final int CLEANING_HOURS = 3, CLEANING_COST = 5, ABOVE_ALL_COSTS = 1000000;

        final int[] allergens = new int[MOST];
        final int[] hours = new int[MOST];
        final int[] dues = new int[MOST];
        final int[] best = new int[MOST];
        int bestCost;
        private final int[] row = new int[MOST];
        private int n;

        void findBest(int orders) {
            n = orders;
            bestCost = ABOVE_ALL_COSTS;
            extend(this, 0, 0, 0, 0);
        }

        /** Rows come in their order, so a row takes the place of another only when it costs less. */
        private static void extend(Rows r, int place, int used, int hour, int cost) {
            if (place >= r.n || place >= MOST) {
                r.keepRow(cost);
                return;
            }
            for (int k = 0; k < r.n; k++) {
                if ((used & (1 << k)) != 0) {
                    continue;
                }
                boolean cleaned = place > 0 && (r.allergens[r.row[place - 1]] & ~r.allergens[k]) != 0;
                int end = hour + r.hours[k] + (cleaned ? CLEANING_HOURS : 0);
                int sum = cost + Math.max(0, end - r.dues[k]) + (cleaned ? CLEANING_COST : 0);
                if (sum < r.bestCost) {
                    r.row[place] = k;
                    extend(r, place + 1, used | (1 << k), end, sum);
                }
            }
        }

        private void keepRow(int cost) {
            bestCost = cost;
            for (int k = 0; k < n; k++) {
                best[k] = row[k];
            }
        }
    }
}
