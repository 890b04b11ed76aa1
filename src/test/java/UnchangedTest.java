import java.util.Map;

/**
 * "What is refused, or found, changes nothing but status()": every refusal of every promise, each
 * alone, with all that can be seen of the object compared with a twin that was not asked.
 */
public final class UnchangedTest {
    private static final int LOW = Integer.MIN_VALUE, HIGH = Integer.MAX_VALUE;

    private final Run run;
    private final Map<String, Integer> before;
    private final int statusBefore;

    private UnchangedTest(Run run) {
        this.run = run;
        before = Seen.of(run);
        statusBefore = run.play().status();
    }

    public static void main(String[] args) {
        UnchangedTest fresh = new UnchangedTest(new Run());
        fresh.onNew();
        UnchangedTest busy = new UnchangedTest(busyLine());
        busy.isBusy();
        busy.sheets();
        busy.copies();
        busy.texts();
        busy.tanks();
        busy.belt();
        busy.bars();
        busy.bloom();
        busy.orders();
        busy.asks();
        UnchangedTest full = new UnchangedTest(fullLine());
        full.isFull();
        full.onFull();
        Due.end();
    }

    /** BAD, STATE and FULL leave status() as well; what is found is told by it. */
    private void refused(int answer, String name, long... a) {
        String call = Run.told(name, a);
        SweetLine x = run.play();
        Due.due(Run.promise(name) + ": " + call, Run.make(x, name, a), answer);
        Due.due("31: status() behind " + call, x.status(), answer <= Due.NULL ? -1000010 - answer : statusBefore);
        Map<String, Integer> after = Seen.of(run.more().then(name, a));
        Due.due(Run.promise(name) + ": how much is seen behind " + call, after.size(), before.size());
        for (Map.Entry<String, Integer> seen : before.entrySet()) {
            Integer now = after.get(seen.getKey());
            String label = Run.promise(name) + ": " + call + " leaves " + seen.getKey();
            Due.due(label, now == null ? 0 : now, seen.getValue());
        }
    }

    // ---- a new object

    private void onNew() {
        for (int k = 0; k < 8; k++) {
            refused(Due.NULL, "set", k, 0, 1);
            refused(Due.NULL, "drop", k);
            refused(Due.NULL, "orders", k, 0, 1, 0);
            refused(Due.NULL, "copy", k, 0, 7 - k, 0, 0);
        }
        refused(Due.NULL, "copy", 0, 0, 0, 0, 0);
        refused(Due.SIZE, "sheet", 0, 0, -1);
        for (int k = 0; k < 4; k++) {
            refused(Due.BAD, "fill", k, 0, 1, 0, 0);
            refused(Due.STATE, "ready", k);
        }
        refused(Due.BAD, "temper", 0, 0, 0, 0);
        refused(Due.BAD, "bin", 0);
        refused(Due.STATE, "correct");
        refused(Due.BAD, "mould", 8, 0);
        for (int bar : new int[] {0, 39, 40, -1}) {
            refused(Due.BAD, "bar", bar, 0);
            refused(Due.BAD, "melt", bar);
            refused(Due.BAD, "kind", bar);
            refused(Due.BAD, "as", bar, 0);
            refused(Due.BAD, "ask", bar, 0);
            refused(Due.BAD, "bloom", bar, 0, 0, 1, 0);
        }
    }

    // ---- some of everything

    private static Run told(String text) {
        Run run = new Run().thenText(text).then("recipes");
        for (int station = 3; station <= 12; station++) {
            run.then("gear", station, 9);
        }
        return run;
    }

    private static Run items(Run run, int sheet, int lane, int... items) {
        run.then("sheet", sheet, lane, items.length);
        for (int i = 0; i < items.length; i++) {
            run.then("set", sheet, i, items[i]);
        }
        return run;
    }

    /** Bars of every kind, a bin, full moulds, sheets, a tape, a trace, a finding. */
    private static Run busyLine() {
        Run run = told(Due.GOOD + Due.RAW + Due.PLAIN).then("gear", 1, 6);
        run.then("fill", 0, 0, 20000, 0, 2).then("ready", 0);
        run.then("fill", 1, 1, 199, 0, 5).then("fill", 2, 1, 60, 0, 6);
        run.then("fill", 3, 2, 200, 0, 7).then("ready", 3);
        run.then("beat", 9);
        run.then("gear", 2, 1).then("beat", 2);
        run.then("gear", 2, 2).then("beat", 1);
        run.then("gear", 2, 3).then("beat", 2);
        run.then("gear", 2, 0).then("beat", 1);
        run.then("gear", 1, 0).then("beat", 1);
        run.then("gear", 1, 6).then("beat", 4);
        run.then("recall", 5).then("melt", 9);
        items(run, 0, 1, 3, 18, 5, 2, 9, 9, 4, 1, 12);
        items(run, 3, 0, 1, 2, 3);
        items(run, 4, 2);
        items(run, 5, 1, 100, 1, 1, 61, 16, 1, 1, 1, 1000, 1, 100, 1);
        run.thenText("rec").then("ask", 0, 1);
        return run.then("copy", 0, 0, 3, 0, 0);
    }

    private void isBusy() {
        SweetLine x = run.play();
        int[] kinds = {2, 2, 2, 2, 2, 2, 2, 2, 2, 4, 4, 3, 1, 0};
        for (int bar = 0; bar < kinds.length; bar++) {
            Due.due("26: kind(" + bar + ")", x.kind(bar), kinds[bar]);
        }
        Due.due("22: bin(1)", x.bin(1), 52);
        Due.due("30: count(2)", x.count(2), 14);
        Due.due("30: count(5)", x.count(5), 6);
        Due.due("31: status()", x.status(), 5);
    }

    private void sheets() {
        for (int sheet : Due.outside(0, 7)) {
            refused(Due.BAD, "sheet", sheet, 0, 1);
            refused(Due.BAD, "sheet", sheet, 0, -1);
            refused(Due.BAD, "set", sheet, 0, 1);
            refused(Due.BAD, "drop", sheet);
        }
        for (int lane : Due.outside(0, 2)) {
            refused(Due.BAD, "sheet", 0, lane, 1);
        }
        refused(Due.BAD, "sheet", 0, 3, -1);
        for (int n : new int[] {61, 256, 65536, 1 << 30, HIGH}) {
            refused(Due.BAD, "sheet", 0, 0, n);
            refused(Due.BAD, "sheet", 7, 2, n);
        }
        for (int n : new int[] {-1, -60, -256, LOW}) {
            refused(Due.SIZE, "sheet", 0, 0, n);
            refused(Due.SIZE, "sheet", 7, 2, n);
        }
        for (int i : Due.outside(0, 8)) {
            refused(Due.PLACE, "set", 0, i, 7);
            refused(Due.NULL, "set", 7, i, 7);
        }
        refused(Due.PLACE, "set", 4, 0, 7);
        refused(Due.PLACE, "set", 3, 3, 7);
        refused(Due.NULL, "drop", 7);
    }

    private void copies() {
        for (int sheet : Due.outside(0, 7)) {
            refused(Due.BAD, "copy", sheet, 0, 0, 0, 1);
            refused(Due.BAD, "copy", 0, 0, sheet, 0, 1);
            refused(Due.BAD, "copy", sheet, 0, 7, 0, -1);
            refused(Due.BAD, "copy", 7, 0, sheet, 0, -1);
        }
        refused(Due.NULL, "copy", 7, 0, 0, 0, 1);
        refused(Due.NULL, "copy", 0, 0, 7, 0, 1);
        refused(Due.NULL, "copy", 7, -1, 0, 0, 1);
        refused(Due.NULL, "copy", 0, 0, 7, -1, 99);
        refused(Due.STORE, "copy", 0, 0, 3, 0, 1);
        refused(Due.STORE, "copy", 3, 0, 0, 0, 1);
        refused(Due.STORE, "copy", 0, 0, 4, 0, 0);
        refused(Due.STORE, "copy", 0, -1, 3, 0, 1);
        refused(Due.STORE, "copy", 0, 0, 3, HIGH, 1);
        refused(Due.STORE, "copy", 0, 0, 3, 0, -1);
        for (int i : Due.outside(0, 8)) {
            refused(Due.PLACE, "copy", 0, i, 5, 0, 1);
            refused(Due.PLACE, "copy", 5, 0, 0, i, 1);
        }
        for (int n : Due.outside(0, 9)) {
            refused(Due.PLACE, "copy", 0, 0, 5, 0, n);
            refused(Due.PLACE, "copy", 5, 0, 0, 0, n);
        }
        refused(Due.PLACE, "copy", 0, 0, 5, 9, 4);
        refused(Due.PLACE, "copy", 5, 9, 0, 0, 4);
        refused(Due.PLACE, "copy", 0, 1, 0, 0, 9);
        refused(Due.PLACE, "copy", 0, 0, 0, 1, 9);
        refused(Due.PLACE, "copy", 0, 10, 5, 0, 0);
        refused(Due.PLACE, "copy", 0, 0, 5, 13, 0);
        refused(Due.PLACE, "copy", 0, HIGH, 5, HIGH, HIGH);
        refused(Due.PLACE, "copy", 0, 5, 5, 5, HIGH - 4);
        refused(Due.PLACE, "copy", 0, LOW, 5, 0, LOW);
    }

    private void texts() {
        for (int n : Due.outside(1, 8)) {
            refused(Due.BAD, "feed", 0x3b, n);
            refused(Due.BAD, "feed", Long.MIN_VALUE, n);
        }
        for (int recipe : Due.outside(0, 2)) {
            refused(Due.BAD, "temper", recipe, 0, 0, 0);
        }
        for (int warmth : Due.outside(0, 60)) {
            refused(Due.BAD, "temper", 0, warmth, 0, 0);
        }
        for (int seeds : Due.outside(0, 999)) {
            refused(Due.BAD, "temper", 0, 0, seeds, 0);
        }
        for (int what : Due.outside(0, 3)) {
            refused(Due.BAD, "temper", 0, 0, 0, what);
        }
    }

    private void tanks() {
        for (int tank : Due.outside(0, 3)) {
            refused(Due.BAD, "fill", tank, 0, 5, 0, 1);
            refused(Due.BAD, "ready", tank);
            refused(Due.BAD, "drain", tank);
            refused(Due.BAD, "tank", tank, 0);
        }
        for (int recipe : Due.outside(0, 2)) {
            refused(Due.BAD, "fill", 0, recipe, 5, 0, 1);
            refused(Due.BAD, "bin", recipe);
        }
        for (int grams : Due.outside(1, 20000)) {
            refused(Due.BAD, "fill", 0, 0, grams, 0, 1);
        }
        for (int rework : Due.outside(0, 5)) {
            refused(Due.BAD, "fill", 1, 1, 5, rework, 1);
        }
        for (int lot : Due.outside(0, 9)) {
            refused(Due.BAD, "fill", 0, 0, 5, 0, lot);
            refused(Due.BAD, "fill", 0, 1, 5, 0, lot);
        }
        refused(Due.STATE, "fill", 0, 1, 5, 0, 1);
        refused(Due.STATE, "fill", 1, 0, 5, 0, 1);
        refused(Due.STATE, "fill", 2, 1, 200, 53, 1);
        refused(Due.STATE, "fill", 2, 1, 20, 15, 1);
        refused(Due.STATE, "fill", 0, 0, 5, 1, 1);
        for (int what : Due.outside(0, 6)) {
            refused(Due.BAD, "tank", 0, what);
        }
    }

    private void belt() {
        for (int n : Due.outside(6, 15)) {
            refused(Due.BAD, "belt", n);
        }
        for (int n = 6; n <= 15; n++) {
            refused(Due.STATE, "belt", n);
        }
        int[] least = {10, 0, 0, 0, 0, 0, 0, 0, 0, 0, 0, 0, 0, -20, -5};
        int[] most = {200, 100, 3, 9, 9, 9, 9, 9, 9, 9, 9, 9, 9, 20, 5};
        for (int what = 0; what < least.length; what++) {
            for (int v : Due.outside(least[what], most[what])) {
                refused(Due.BAD, "gear", what, v);
            }
        }
        for (int what : Due.outside(0, 14)) {
            refused(Due.BAD, "gear", what, 0);
            refused(Due.BAD, "gear", what, 10);
        }
        for (int n : Due.outside(1, 100)) {
            refused(Due.BAD, "beat", n);
        }
        for (int station : Due.outside(0, 7)) {
            refused(Due.BAD, "mould", station, 0);
        }
        for (int what : Due.outside(0, 5)) {
            refused(Due.BAD, "mould", 0, what);
            refused(Due.BAD, "mould", 7, what);
        }
    }

    private void bars() {
        for (int bar : Due.outside(0, 13)) {
            refused(Due.BAD, "bar", bar, 0);
            refused(Due.BAD, "melt", bar);
            refused(Due.BAD, "kind", bar);
            refused(Due.BAD, "as", bar, 0);
            refused(Due.BAD, "ask", bar, 0);
            refused(Due.BAD, "bloom", bar, 0, 0, 1, 0);
        }
        for (int what : Due.outside(0, 6)) {
            refused(Due.BAD, "bar", 0, what);
        }
        for (int lot : Due.outside(0, 9)) {
            refused(Due.BAD, "recall", lot);
        }
        refused(Due.STATE, "melt", 0);
        refused(Due.STATE, "melt", 9);
        refused(Due.STATE, "melt", 12);
        refused(Due.STATE, "melt", 13);
        for (int what : Due.outside(0, 5)) {
            refused(Due.BAD, "grams", what);
        }
    }

    private void bloom() {
        for (int sheet : Due.outside(0, 7)) {
            refused(Due.BAD, "bloom", 0, sheet, 0, 1, 0);
            refused(Due.BAD, "bloom", 0, sheet, -1, 1, 0);
            refused(Due.BAD, "orders", sheet, 0, 1, 0);
        }
        for (int n : Due.outside(1, 20)) {
            refused(Due.BAD, "bloom", 0, 0, 0, n, 0);
            refused(Due.BAD, "bloom", 0, 7, 0, n, 0);
        }
        for (int what : Due.outside(0, 1)) {
            refused(Due.BAD, "bloom", 0, 0, 0, 1, what);
            refused(Due.BAD, "bloom", 0, 7, 0, 1, what);
            refused(Due.BAD, "bloom", 0, 0, 8, 1, what);
        }
        refused(Due.NULL, "bloom", 0, 7, 0, 1, 0);
        refused(Due.NULL, "bloom", 0, 7, -1, 1, 1);
        for (int i : Due.outside(0, 7)) {
            refused(Due.PLACE, "bloom", 0, 0, i, 1, 0);
        }
        for (int i : Due.outside(0, 10)) {
            refused(Due.PLACE, "bloom", 0, 5, i, 1, 0);
        }
        refused(Due.PLACE, "bloom", 0, 0, 0, 5, 0);
        refused(Due.PLACE, "bloom", 0, 0, 2, 4, 0);
        refused(Due.PLACE, "bloom", 0, 4, 0, 1, 0);
        refused(Due.PLACE, "bloom", 0, 0, HIGH - 1, 1, 0);
        refused(Due.PLACE, "bloom", 0, 0, HIGH - 39, 20, 0);
        refused(Due.PLACE, "bloom", 0, 5, 0, 7, 0);
        refused(Due.BAD, "bloom", 0, 5, 0, 1, 0);
        refused(Due.BAD, "bloom", 0, 5, 2, 1, 0);
        refused(Due.BAD, "bloom", 0, 5, 1, 4, 1);
    }

    private void orders() {
        for (int n : Due.outside(1, 7)) {
            refused(Due.BAD, "orders", 0, 0, n, -1);
            refused(Due.BAD, "orders", 7, 0, n, -1);
        }
        for (int n = 1; n <= 3; n++) {
            for (int k : Due.outside(-1, n - 1)) {
                refused(Due.BAD, "orders", 0, 0, n, k);
                refused(Due.BAD, "orders", 7, 0, n, k);
                refused(Due.BAD, "orders", 0, 9, n, k);
            }
        }
        refused(Due.NULL, "orders", 7, 0, 1, -1);
        refused(Due.NULL, "orders", 7, -1, 7, 6);
        for (int i : Due.outside(0, 6)) {
            refused(Due.PLACE, "orders", 0, i, 1, -1);
        }
        refused(Due.PLACE, "orders", 0, 0, 4, -1);
        refused(Due.PLACE, "orders", 0, 1, 3, -1);
        refused(Due.PLACE, "orders", 4, 0, 1, -1);
        refused(Due.PLACE, "orders", 0, HIGH - 2, 1, -1);
        refused(Due.PLACE, "orders", 0, HIGH - 20, 7, -1);
        refused(Due.PLACE, "orders", 5, 0, 5, 0);
        refused(Due.BAD, "orders", 5, 4, 1, -1);
        refused(Due.BAD, "orders", 5, 6, 1, -1);
        refused(Due.BAD, "orders", 5, 9, 1, -1);
        refused(Due.BAD, "orders", 5, 0, 4, 3);
    }

    private void asks() {
        for (int kind : Due.outside(0, 4)) {
            refused(Due.BAD, "as", 0, kind);
        }
        int[] fits = {0b00001, 0b00011, 0b00111, 0b01001, 0b10001};
        int[] barOf = {13, 12, 0, 11, 10};
        for (int told = 0; told <= 4; told++) {
            for (int kind = 0; kind <= 4; kind++) {
                if ((fits[told] >> kind & 1) == 0) {
                    refused(Due.KIND, "as", barOf[told], kind);
                }
            }
        }
        for (int what : Due.outside(0, 1)) {
            refused(Due.BAD, "ask", 0, what);
        }
        for (int what : Due.outside(0, 7)) {
            refused(Due.BAD, "count", what);
        }
        for (int i : Due.outside(0, 5)) {
            refused(Due.NONE, "trace", i);
        }
    }

    // ---- all that can be full is full

    private static Run fullLine() {
        Run run = told("recipe 0 50;recipe 1 0;recipe 2 0;recipe 0 0;recipe 0 0;recipe 0 0 seed 9;");
        for (int k = 0; k < 4; k++) {
            run.then("fill", 0, 0, 20000, 0, k);
        }
        run.then("beat", 52).then("melt", 3);
        run.then("fill", 0, 0, 20000, 0, 4);
        run.then("fill", 3, 5, 20000, 0, 4);
        return run.thenText("recipe 0 0;" + " ".repeat(389));
    }

    private void isFull() {
        SweetLine x = run.play();
        Due.due("30: count(7)", x.count(7), 400);
        Due.due("30: count(1)", x.count(1), 6);
        Due.due("30: count(2)", x.count(2), 46);
        Due.due("13: tank(0, 0)", x.tank(0, 0), 97200);
        Due.due("22: bin(0)", x.bin(0), 50);
    }

    private void onFull() {
        for (int n = 1; n <= 8; n++) {
            refused(Due.FULL, "feed", 0x2020202020202020L, n);
            refused(Due.FULL, "feed", Long.MAX_VALUE, n);
        }
        refused(Due.BAD, "feed", 32, 0);
        refused(Due.BAD, "feed", 32, 9);
        refused(Due.STATE, "fill", 0, 0, 2800, 0, 9);
        refused(Due.STATE, "fill", 0, 0, 20000, 0, 9);
        refused(Due.STATE, "fill", 0, 0, 2800, 50, 9);
        refused(Due.STATE, "fill", 0, 0, 51, 51, 9);
        refused(Due.STATE, "fill", 1, 0, 99, 50, 9);
        refused(Due.STATE, "fill", 0, 5, 1, 0, 9);
        refused(Due.BAD, "fill", 0, 6, 1, 0, 9);
        refused(Due.BAD, "bin", 6);
        refused(Due.BAD, "temper", 6, 0, 0, 0);
        refused(Due.STATE, "melt", 3);
        for (int bar : new int[] {40, 45, 46}) {
            refused(Due.BAD, "bar", bar, 0);
            refused(Due.BAD, "melt", bar);
            refused(Due.BAD, "kind", bar);
            refused(Due.BAD, "as", bar, 0);
            refused(Due.BAD, "ask", bar, 0);
        }
    }
}
