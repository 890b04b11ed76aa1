import java.util.ArrayList;
import java.util.BitSet;
import java.util.Collections;
import java.util.LinkedList;
import java.util.List;
import java.util.TreeSet;
import java.util.regex.Matcher;
import java.util.regex.Pattern;

/**
 * The document once more, written for plainness alone and apart from SweetLine: with the library,
 * with exceptions as refusals, with objects as kinds.
 */
final class Model {
    static final class Refusal extends RuntimeException {
        private static final long serialVersionUID = 1;
        final int answer;

        Refusal(int answer) {
            super(null, null, false, false);
            this.answer = answer;
        }
    }

    /** A recipe's stage: 'warm' with degrees and minutes, or 'seed' with seeds. */
    record Stage(String word, int first, int second) {
    }

    record Recipe(int allergens, int share, List<Stage> stages) {
    }

    record Temper(int warmth, int seeds) {
        int state() {
            return seeds < 10 ? 0 : seeds <= 60 && warmth >= 28 && warmth <= 33 ? 1 : 2;
        }

        int thick() {
            int thick = 100 + 3 * seeds;
            for (int degree = warmth; degree < 34; degree++) {
                thick += 10;
            }
            return thick;
        }
    }

    static final class Tank {
        int stuff, rework, recipe;
        final TreeSet<Integer> lots = new TreeSet<>();
        Temper temper;
    }

    static final class Mould {
        int chocolate, filling, recipe, lots, warmth;
        boolean good, shaken, filled;
    }

    static class Bar {
        int chocolate, filling, recipe, lots, beat;
        boolean good, melted;
    }

    interface Asked {
        Bar bar();

        List<Integer> trace();

        default int size() {
            trace().add(10);
            return bar().chocolate;
        }

        default int mark() {
            trace().add(20);
            return bar().beat;
        }
    }

    static class AskedBar implements Asked {
        final Bar bar;
        final List<Integer> trace;

        AskedBar(Bar bar, List<Integer> trace) {
            this.bar = bar;
            this.trace = trace;
        }

        @Override public Bar bar() {
            return bar;
        }

        @Override public List<Integer> trace() {
            return trace;
        }
    }

    static class FilledBar extends AskedBar {
        FilledBar(Bar bar, List<Integer> trace) {
            super(bar, trace);
        }

        @Override public int size() {
            trace.add(11);
            return super.size() + bar.filling;
        }

        @Override public int mark() {
            trace.add(21);
            return super.mark() + 1000;
        }
    }

    static final class NuttyBar extends FilledBar {
        NuttyBar(Bar bar, List<Integer> trace) {
            super(bar, trace);
        }

        @Override public int size() {
            trace.add(12);
            return super.size() * 2;
        }

        @Override public int mark() {
            trace.add(22);
            int mark = super.mark();
            return mark + size();
        }
    }

    static final class DullBar extends AskedBar {
        DullBar(Bar bar, List<Integer> trace) {
            super(bar, trace);
        }

        @Override public int size() {
            trace.add(13);
            int size = super.size();
            return size - mark();
        }
    }

    static final class RecalledBar extends AskedBar {
        RecalledBar(Bar bar, List<Integer> trace) {
            super(bar, trace);
        }

        @Override public int size() {
            trace.add(14);
            return 0 - super.size();
        }

        @Override public int mark() {
            trace.add(23);
            return super.mark() + bar.lots;
        }
    }

    private static final Class<?>[] KINDS =
        {AskedBar.class, FilledBar.class, NuttyBar.class, DullBar.class, RecalledBar.class};

    private final Object[] sheets = new Object[8];
    private final StringBuilder tape = new StringBuilder();
    private final List<Recipe> recipes = new ArrayList<>();
    private final Tank[] tanks = {new Tank(), new Tank(), new Tank(), new Tank()};
    private final int[] bins = new int[6];
    private LinkedList<Mould> belt = emptyBelt(8);
    private final int[] cold = {0, 0, 0, 3, 3, 3, 3, 3, 3, 3, 3, 3, 3};
    private int target = 50, filling = 0, pouring = 0, offset = 0, drift = 0;
    private int poured, beats, missed;
    private final List<Bar> allBars = new ArrayList<>();
    private final BitSet calledBack = new BitSet();
    private int filledGrams, drainedGrams, givenAway;
    private List<Integer> trace = new ArrayList<>();
    private int fault, status;

    private static LinkedList<Mould> emptyBelt(int n) {
        LinkedList<Mould> belt = new LinkedList<>();
        for (int k = 0; k < n; k++) {
            belt.add(null);
        }
        return belt;
    }

    private static void need(boolean right, int otherwise) {
        if (!right) {
            throw new Refusal(otherwise);
        }
    }

    private static void needIn(long v, long least, long most) {
        need(v >= least && v <= most, Due.BAD);
    }

    /** A call with a SHEET, or as(): its finding, or none, becomes status(). */
    int noting(java.util.function.IntSupplier call) {
        try {
            int answer = call.getAsInt();
            status = 0;
            return answer;
        } catch (Refusal r) {
            if (r.answer <= Due.NULL) {
                status = -1000010 - r.answer;
            }
            throw r;
        }
    }

    private static int sizeOf(Object sheet) {
        return java.lang.reflect.Array.getLength(sheet);
    }

    private static int item(Object sheet, int i) {
        return java.lang.reflect.Array.getInt(sheet, i);
    }

    private static Object newSheet(int lane, int n) {
        return lane == 0 ? new byte[n] : lane == 1 ? new short[n] : new int[n];
    }

    private static void needPlaces(Object sheet, long i, long n) {
        need(i >= 0 && n >= 0 && i + n <= sizeOf(sheet), Due.PLACE);
    }

    int sheet(int sheet, int lane, int n) {
        return noting(() -> {
            needIn(sheet, 0, 7);
            needIn(lane, 0, 2);
            need(n <= 60, Due.BAD);
            need(n >= 0, Due.SIZE);
            sheets[sheet] = newSheet(lane, n);
            return n;
        });
    }

    int set(int sheet, int i, int v) {
        return noting(() -> {
            needIn(sheet, 0, 7);
            Object s = sheets[sheet];
            need(s != null, Due.NULL);
            needPlaces(s, i, 1);
            if (s instanceof byte[] b) {
                b[i] = (byte) v;
            } else if (s instanceof short[] b) {
                b[i] = (short) v;
            } else if (s instanceof int[] b) {
                b[i] = v;
            }
            return item(s, i);
        });
    }

    int copy(int a, int i, int b, int j, int n) {
        return noting(() -> {
            needIn(a, 0, 7);
            needIn(b, 0, 7);
            need(sheets[a] != null && sheets[b] != null, Due.NULL);
            need(sheets[a].getClass() == sheets[b].getClass(), Due.STORE);
            needPlaces(sheets[a], i, n);
            needPlaces(sheets[b], j, n);
            System.arraycopy(sheets[a], i, sheets[b], j, n);
            return n;
        });
    }

    int drop(int sheet) {
        return noting(() -> {
            needIn(sheet, 0, 7);
            need(sheets[sheet] != null, Due.NULL);
            int size = sizeOf(sheets[sheet]);
            sheets[sheet] = null;
            return size;
        });
    }

    int feed(long w, int n) {
        needIn(n, 1, 8);
        need(tape.length() + n <= 400, Due.FULL);
        byte[] bytes = java.math.BigInteger.valueOf(w).toByteArray();
        for (int k = n; k >= 1; k--) {
            int b = bytes.length >= k ? bytes[bytes.length - k] : w < 0 ? -1 : 0;
            tape.append((char) (b & 255));
        }
        return tape.length();
    }

    int recipes() {
        String text = tape.toString();
        tape.setLength(0);
        Reading reading = new Reading(text, recipes.size());
        if (!reading.run()) {
            fault = reading.fault;
            return -1000100 - reading.place;
        }
        recipes.addAll(reading.read);
        return recipes.size();
    }

    private static final class Reading {
        private static final Pattern TOKENS = Pattern.compile("[a-z]+|[0-9]+|;|[^ \n]");
        final List<String> words = new ArrayList<>();
        final List<Integer> places = new ArrayList<>();
        final List<Recipe> read = new ArrayList<>();
        final int had;
        int at, fault, place;

        Reading(String text, int had) {
            this.had = had;
            Matcher m = TOKENS.matcher(text);
            while (m.find()) {
                words.add(m.group());
                places.add(m.start());
            }
            words.add("");
            places.add(text.length());
        }

        boolean run() {
            try {
                while (!words.get(at).isEmpty()) {
                    oneRecipe();
                }
                return true;
            } catch (Refusal r) {
                fault = r.answer;
                place = places.get(at);
                return false;
            }
        }

        void oneRecipe() {
            need(words.get(at).equals("recipe"), 1);
            need(had + read.size() < 6, 3);
            at++;
            int allergens = number(0, 15);
            int share = number(0, 50);
            List<Stage> stages = new ArrayList<>();
            while (!words.get(at).equals(";")) {
                String word = words.get(at);
                need(List.of("warm", "seed").contains(word), 1);
                need(stages.size() < 6, 3);
                at++;
                stages.add(word.equals("warm") ? new Stage(word, number(0, 60), number(1, 60))
                    : new Stage(word, number(1, 50), 0));
            }
            at++;
            read.add(new Recipe(allergens, share, stages));
        }

        int number(int least, int most) {
            need(words.get(at).matches("[0-9]{1,4}"), 1);
            int value = Integer.parseInt(words.get(at));
            need(value >= least && value <= most, 2);
            at++;
            return value;
        }
    }

    int fault() {
        return fault;
    }

    private static Temper tempered(Recipe recipe, Temper from) {
        int warmth = from.warmth;
        int seeds = from.seeds;
        for (Stage stage : recipe.stages) {
            if (stage.word.equals("seed")) {
                seeds = Math.min(999, seeds + stage.first);
                continue;
            }
            for (int minute = 1; minute <= stage.second; minute++) {
                if (warmth < stage.first) {
                    warmth++;
                } else if (warmth > stage.first) {
                    warmth--;
                }
                if (warmth >= 35) {
                    seeds = seeds - seeds * 30 / 100 - 1;
                } else if (warmth <= 26) {
                    seeds = seeds + seeds * 20 / 100 + 1;
                } else if (warmth < 32) {
                    seeds = seeds + seeds * 5 / 100;
                }
                seeds = seeds < 0 ? 0 : seeds > 999 ? 999 : seeds;
            }
        }
        return new Temper(warmth, seeds);
    }

    int temper(int recipe, int warmth, int seeds, int what) {
        needIn(recipe, 0, recipes.size() - 1);
        needIn(warmth, 0, 60);
        needIn(seeds, 0, 999);
        needIn(what, 0, 3);
        Temper t = tempered(recipes.get(recipe), new Temper(warmth, seeds));
        return List.of(t.warmth, t.seeds, t.state(), t.thick()).get(what);
    }

    int fill(int tank, int recipe, int grams, int rework, int lot) {
        needIn(tank, 0, 3);
        needIn(recipe, 0, recipes.size() - 1);
        needIn(grams, 1, 20000);
        needIn(rework, 0, grams);
        needIn(lot, 0, 9);
        Tank t = tanks[tank];
        need(t.stuff == 0 || t.recipe == recipe, Due.STATE);
        need(bins[recipe] >= rework, Due.STATE);
        need(100 * (t.rework + rework) <= recipes.get(recipe).share * (t.stuff + grams), Due.STATE);
        need(t.stuff + grams <= 99999, Due.STATE);
        if (t.stuff == 0) {
            t.temper = new Temper(45, 0);
        }
        t.recipe = recipe;
        t.stuff += grams;
        t.rework += rework;
        t.lots.add(lot);
        bins[recipe] -= rework;
        filledGrams += grams;
        return t.stuff;
    }

    int ready(int tank) {
        needIn(tank, 0, 3);
        Tank t = tanks[tank];
        need(t.stuff > 0, Due.STATE);
        t.temper = tempered(recipes.get(t.recipe), t.temper);
        return t.temper.state();
    }

    int drain(int tank) {
        needIn(tank, 0, 3);
        int had = tanks[tank].stuff;
        tanks[tank] = new Tank();
        drainedGrams += had;
        return had;
    }

    private static int bits(Iterable<Integer> lots) {
        int bits = 0;
        for (int lot : lots) {
            bits += 1 << lot;
        }
        return bits;
    }

    int tank(int tank, int what) {
        needIn(tank, 0, 3);
        needIn(what, 0, 6);
        Tank t = tanks[tank];
        if (t.stuff == 0) {
            return List.of(0, 0, Due.NONE, 0, Due.NONE, Due.NONE, Due.NONE).get(what);
        }
        Integer[] all = {t.stuff, t.rework, t.recipe, bits(t.lots), t.temper.warmth, t.temper.seeds, t.temper.state()};
        return all[what];
    }

    int belt(int n) {
        needIn(n, 6, 15);
        need(count(5) == 0, Due.STATE);
        int had = belt.size();
        belt = emptyBelt(n);
        return had;
    }

    int gear(int what, int v) {
        int was;
        switch (what) {
            case 0 -> {
                needIn(v, 10, 200);
                was = target;
                target = v;
            }
            case 1 -> {
                needIn(v, 0, 100);
                was = filling;
                filling = v;
            }
            case 2 -> {
                needIn(v, 0, 3);
                was = pouring;
                pouring = v;
            }
            case 13 -> {
                needIn(v, -20, 20);
                was = offset;
                offset = v;
            }
            case 14 -> {
                needIn(v, -5, 5);
                was = drift;
                drift = v;
            }
            default -> {
                needIn(what, 3, 12);
                needIn(v, 0, 9);
                was = cold[what];
                cold[what] = v;
            }
        }
        return was;
    }

    int beat(int n) {
        needIn(n, 1, 100);
        int had = allBars.size();
        for (int k = 0; k < n; k++) {
            oneBeat();
        }
        return allBars.size() - had;
    }

    private void oneBeat() {
        belt.addFirst(belt.removeLast());
        int n = belt.size();
        if (belt.get(0) == null) {
            belt.set(0, pourOne());
        }
        if (belt.get(1) != null) {
            belt.get(1).shaken = true;
        }
        Mould second = belt.get(2);
        if (second != null && !second.filled) {
            second.filling += filling;
            second.filled = true;
        }
        for (int cell = 3; cell <= n - 3; cell++) {
            Mould m = belt.get(cell);
            if (m != null) {
                m.warmth -= cold[cell];
                m.warmth = m.warmth < 5 ? 5 : m.warmth;
            }
        }
        Mould out = belt.get(n - 2);
        if (out != null && out.shaken && out.warmth <= 18) {
            turnOut(out);
            belt.set(n - 2, null);
        } else if (out != null) {
            missed++;
        }
        beats++;
    }

    private Mould pourOne() {
        int grams = target + drift + offset;
        grams = grams < 1 ? 1 : grams;
        Tank t = tanks[pouring];
        if (t.stuff < grams) {
            return null;
        }
        Mould m = new Mould();
        m.chocolate = grams;
        m.recipe = t.recipe;
        m.lots = bits(t.lots);
        m.warmth = t.temper.warmth;
        m.good = t.temper.state() == 1;
        t.rework -= (int) ((long) t.rework * grams / t.stuff);
        t.stuff -= grams;
        if (t.stuff == 0) {
            tanks[pouring] = new Tank();
        }
        poured++;
        if (poured == 4) {
            poured = 0;
            drift = drift == 5 ? 5 : drift + 1;
        }
        return m;
    }

    private void turnOut(Mould m) {
        Bar bar = new Bar();
        bar.chocolate = m.chocolate;
        bar.filling = m.filling;
        bar.recipe = m.recipe;
        bar.lots = m.lots;
        bar.good = m.good;
        bar.beat = beats;
        allBars.add(bar);
        if (m.chocolate > target) {
            givenAway += m.chocolate - target;
        }
    }

    int mould(int station, int what) {
        needIn(station, 0, belt.size() - 1);
        needIn(what, 0, 5);
        Mould m = belt.get(station);
        if (m == null) {
            return Due.NONE;
        }
        return List.of(m.chocolate, m.filling, m.recipe, m.warmth, m.shaken ? 1 : 0, m.good ? 1 : 0).get(what);
    }

    int correct() {
        need(!allBars.isEmpty(), Due.STATE);
        List<Bar> last = allBars.subList(Math.max(0, allBars.size() - 4), allBars.size());
        int mean = last.stream().mapToInt(b -> b.chocolate).sum() / last.size();
        if (mean > target && offset > -20) {
            offset--;
        } else if (mean < target && offset < 20) {
            offset++;
        }
        return offset;
    }

    private List<Bar> kept() {
        return allBars.subList(0, Math.min(40, allBars.size()));
    }

    private Bar keptBar(int bar) {
        needIn(bar, 0, kept().size() - 1);
        return kept().get(bar);
    }

    int bar(int bar, int what) {
        Bar b = keptBar(bar);
        needIn(what, 0, 6);
        return List.of(b.chocolate, b.filling, b.recipe, b.lots, b.good ? 1 : 0, b.beat, b.melted ? 1 : 0).get(what);
    }

    int recall(int lot) {
        needIn(lot, 0, 9);
        calledBack.set(lot);
        return (int) kept().stream().filter(b -> (b.lots >> lot & 1) == 1).count();
    }

    private Asked asked(Bar b) {
        boolean recalled = calledBack.stream().anyMatch(lot -> (b.lots >> lot & 1) == 1);
        if (recalled) {
            return new RecalledBar(b, trace);
        } else if (!b.good) {
            return new DullBar(b, trace);
        } else if (b.filling > 0) {
            boolean nuts = recipes.get(b.recipe).allergens % 2 == 1;
            return nuts ? new NuttyBar(b, trace) : new FilledBar(b, trace);
        }
        return new AskedBar(b, trace);
    }

    int melt(int bar) {
        Bar b = keptBar(bar);
        Asked asked = asked(b);
        need(asked instanceof DullBar || asked instanceof RecalledBar, Due.STATE);
        need(!b.melted, Due.STATE);
        b.melted = true;
        return bins[b.recipe] += b.chocolate;
    }

    int bin(int recipe) {
        needIn(recipe, 0, recipes.size() - 1);
        return bins[recipe];
    }

    int grams(int what) {
        needIn(what, 0, 5);
        int inTanks = 0;
        for (Tank t : tanks) {
            inTanks += t.stuff;
        }
        int inMoulds = belt.stream().mapToInt(m -> m == null ? 0 : m.chocolate).sum();
        int inBars = allBars.stream().mapToInt(b -> b.chocolate).sum();
        return List.of(filledGrams, inTanks, inMoulds, inBars, drainedGrams, givenAway).get(what);
    }

    int bloom(int bar, int sheet, int i, int n, int what) {
        return noting(() -> {
            Bar b = keptBar(bar);
            needIn(sheet, 0, 7);
            needIn(n, 1, 20);
            needIn(what, 0, 1);
            Object s = sheets[sheet];
            need(s != null, Due.NULL);
            needPlaces(s, i, 2L * n);
            int used = 0;
            for (int k = 0; k < n; k++) {
                needIn(item(s, i + 2 * k), 0, 99);
                needIn(item(s, i + 2 * k + 1), 0, 60);
                for (int day = 0; day < item(s, i + 2 * k); day++) {
                    int degrees = item(s, i + 2 * k + 1);
                    int oneDay = degrees > 18 ? 100 + 10 * (degrees - 18) : 100;
                    used += b.good ? oneDay : 2 * oneDay;
                }
            }
            return what == 0 ? used : used > 6000 ? 0 : 1;
        });
    }

    int orders(int sheet, int i, int n, int k) {
        return noting(() -> {
            needIn(sheet, 0, 7);
            needIn(n, 1, 7);
            needIn(k, -1, n - 1);
            Object s = sheets[sheet];
            need(s != null, Due.NULL);
            needPlaces(s, i, 3L * n);
            List<int[]> orders = new ArrayList<>();
            for (int o = 0; o < n; o++) {
                int at = i + 3 * o;
                needIn(item(s, at), 0, 15);
                needIn(item(s, at + 1), 1, 99);
                needIn(item(s, at + 2), 0, 999);
                orders.add(new int[] {item(s, at), item(s, at + 1), item(s, at + 2)});
            }
            List<List<Integer>> all = new ArrayList<>();
            allRows(n, new ArrayList<>(), all);
            List<Integer> best = Collections.min(all, (a, b) -> Integer.compare(cost(orders, a), cost(orders, b)));
            return k == -1 ? cost(orders, best) : best.get(k);
        });
    }

    private static void allRows(int n, List<Integer> begun, List<List<Integer>> all) {
        if (begun.size() == n) {
            all.add(new ArrayList<>(begun));
            return;
        }
        for (int k = 0; k < n; k++) {
            if (!begun.contains(k)) {
                begun.add(k);
                allRows(n, begun, all);
                begun.remove(begun.size() - 1);
            }
        }
    }

    private static int cost(List<int[]> orders, List<Integer> row) {
        int hour = 0;
        int cleaned = 0;
        int late = 0;
        int[] before = null;
        for (int k : row) {
            int[] order = orders.get(k);
            for (int bit = 8; before != null && bit >= 1; bit /= 2) {
                if ((before[0] & bit) != 0 && (order[0] & bit) == 0) {
                    cleaned++;
                    hour += 3;
                    break;
                }
            }
            hour += order[1];
            late += Math.max(0, hour - order[2]);
            before = order;
        }
        return 5 * cleaned + late;
    }

    int kind(int bar) {
        Asked asked = asked(keptBar(bar));
        return List.of(KINDS).indexOf(asked.getClass());
    }

    int as(int bar, int kind) {
        return noting(() -> {
            Asked asked = asked(keptBar(bar));
            needIn(kind, 0, 4);
            need(KINDS[kind].isInstance(asked), Due.KIND);
            return asked.bar().chocolate;
        });
    }

    int ask(int bar, int what) {
        Bar b = keptBar(bar);
        needIn(what, 0, 1);
        trace = new ArrayList<>();
        return what == 0 ? asked(b).size() : asked(b).mark();
    }

    int trace(int i) {
        return i >= 0 && i < Math.min(16, trace.size()) ? trace.get(i) : Due.NONE;
    }

    int count(int what) {
        needIn(what, 0, 7);
        int sheetsThere = 0;
        for (Object s : sheets) {
            sheetsThere += s == null ? 0 : 1;
        }
        int full = (int) belt.stream().filter(m -> m != null).count();
        int recalled = (int) kept().stream().filter(b -> asked(b) instanceof RecalledBar).count();
        return List.of(sheetsThere, recipes.size(), allBars.size(), beats, missed, full, recalled, tape.length()).get(what);
    }

    int status() {
        return status;
    }

    // ---- what the choice of arguments looks at, without a call

    int recipeCount() {
        return recipes.size();
    }

    int barCount() {
        return allBars.size();
    }

    int recipeIn(int tank) {
        return tank >= 0 && tank < 4 && tanks[tank].stuff > 0 ? tanks[tank].recipe : -1;
    }

    int inBin(int recipe) {
        return recipe >= 0 && recipe < bins.length ? bins[recipe] : 0;
    }
}
