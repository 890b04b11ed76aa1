/** Promises 26 to 31: kind, as, ask, trace, count, status. */
public final class AsksTest {
    private static final int LOW = Integer.MIN_VALUE, HIGH = Integer.MAX_VALUE;

    public static void main(String[] args) {
        plainBar();
        filledBar();
        nuttyBar();
        dullBar();
        recalledBar();
        kindRefuses();
        asRefuses();
        askRefuses();
        trace();
        count();
        status();
        Due.end();
    }

    /** The KINDS that the bar may be taken as, by bits. */
    private static void dueKind(SweetLine x, int bar, int kind, int asBits) {
        Due.due("26: kind(" + bar + ")", x.kind(bar), kind);
        for (int k = 0; k <= 4; k++) {
            boolean fits = (asBits >> k & 1) == 1;
            Due.due("27: as(" + bar + ", " + k + ")", x.as(bar, k), fits ? x.bar(bar, 0) : Due.KIND);
            Due.due("31: status() behind it", x.status(), fits ? 0 : 3);
        }
    }

    private static void dueAsk(SweetLine x, int bar, int what, int want, int... numbers) {
        Due.due("28: ask(" + bar + ", " + what + ")", x.ask(bar, what), want);
        for (int i = 0; i < numbers.length; i++) {
            Due.due("29: trace(" + i + ") of ask(" + bar + ", " + what + ")", x.trace(i), numbers[i]);
        }
        Due.due("29: trace(" + numbers.length + ")", x.trace(numbers.length), Due.NONE);
    }

    private static void plainBar() {
        SweetLine x = Due.withBars(Due.GOOD, 0, 3, 2);
        dueKind(x, 1, 0, 1);
        dueAsk(x, 1, 0, 50, 10);
        dueAsk(x, 1, 1, 7, 20);
    }

    private static void filledBar() {
        SweetLine x = Due.withBars("recipe 14 0 warm 31 20 seed 20;", 1, 3, 2);
        dueKind(x, 1, 1, 3);
        dueAsk(x, 1, 0, 51, 11, 10);
        dueAsk(x, 1, 1, 1007, 21, 20);
    }

    private static void nuttyBar() {
        SweetLine x = Due.withBars("recipe 9 0 warm 31 20 seed 20;", 8, 3, 2);
        dueKind(x, 1, 2, 7);
        dueAsk(x, 1, 0, 116, 12, 11, 10);
        dueAsk(x, 1, 1, 1123, 22, 21, 20, 12, 11, 10);
    }

    private static void dullBar() {
        SweetLine x = Due.withBars("recipe 1 0;", 8, 3, 2);
        dueKind(x, 1, 3, 9);
        dueAsk(x, 1, 0, 43, 13, 10, 20);
        dueAsk(x, 1, 1, 7, 20);
    }

    private static void recalledBar() {
        for (String text : new String[] {Due.GOOD, Due.PLAIN, "recipe 1 0;"}) {
            SweetLine x = Due.withBars(text, 8, 3, 2);
            x.recall(3);
            dueKind(x, 1, 4, 17);
            dueAsk(x, 1, 0, -50, 14, 10);
            dueAsk(x, 1, 1, 15, 23, 20);
        }
        SweetLine y = Due.cold(Due.GOOD);
        y.fill(0, 0, 100, 0, 9);
        y.fill(0, 0, 100, 0, 0);
        y.beat(7);
        y.recall(1);
        Due.due("26: another LOT", y.kind(0), 3);
        y.recall(0);
        Due.due("26: one of its LOTS", y.kind(0), 4);
        dueAsk(y, 0, 1, 6 + 513, 23, 20);
    }

    private static void kindRefuses() {
        SweetLine x = Due.withBars(Due.GOOD, 0, 3, 2);
        for (int bar : new int[] {-1, 2, 40, LOW, HIGH}) {
            Due.due("26: kind(" + bar + ")", x.kind(bar), Due.BAD);
            Due.due("27: as(" + bar + ", 0)", x.as(bar, 0), Due.BAD);
            Due.due("28: ask(" + bar + ", 0)", x.ask(bar, 0), Due.BAD);
        }
        SweetLine y = Due.withBars(Due.GOOD, 0, 3, 41);
        Due.due("26: kind(39)", y.kind(39), 0);
        Due.due("26: kind(40) is not kept", y.kind(40), Due.BAD);
    }

    private static void asRefuses() {
        SweetLine x = Due.withBars(Due.GOOD, 0, 3, 1);
        Due.due("27: as(0, 4)", x.as(0, 4), Due.KIND);
        for (int kind : new int[] {-1, 5, LOW, HIGH}) {
            Due.due("27: as(0, " + kind + ")", x.as(0, kind), Due.BAD);
        }
        Due.due("31: status() stays with BAD", x.status(), 3);
    }

    private static void askRefuses() {
        SweetLine x = Due.withBars(Due.GOOD, 5, 3, 1);
        x.ask(0, 0);
        Due.due("28: ask(0, -1)", x.ask(0, -1), Due.BAD);
        Due.due("28: ask(0, 2)", x.ask(0, 2), Due.BAD);
        Due.due("28: ask(1, 0)", x.ask(1, 0), Due.BAD);
        Due.due("29: THE TRACE stays", x.trace(0), 12);
    }

    private static void trace() {
        SweetLine x = Due.withBars(Due.GOOD, 5, 3, 1);
        for (int i : new int[] {0, 1, 15, 16, -1, LOW, HIGH}) {
            Due.due("29: trace(" + i + ") before an ask", x.trace(i), Due.NONE);
        }
        x.ask(0, 1);
        Due.due("29: trace(5)", x.trace(5), 10);
        for (int i : new int[] {6, 15, 16, -1, LOW, HIGH}) {
            Due.due("29: trace(" + i + ")", x.trace(i), Due.NONE);
        }
        x.ask(0, 0);
        Due.due("29: THE TRACE is empty ahead of an ask", x.trace(3), Due.NONE);
    }

    private static void count() {
        SweetLine x = Due.withBars(Due.GOOD, 5, 3, 4);
        x.sheet(1, 0, 0);
        x.sheet(7, 0, 9);
        x.feed(0, 3);
        x.recall(3);
        int[] want = {2, 1, 4, 10, 0, 6, 4, 3};
        for (int what = 0; what < want.length; what++) {
            Due.due("30: count(" + what + ")", x.count(what), want[what]);
        }
        for (int what : new int[] {-1, 8, LOW, HIGH}) {
            Due.due("30: count(" + what + ")", x.count(what), Due.BAD);
        }
        for (int station = 3; station <= 12; station++) {
            x.gear(station, 0);
        }
        x.beat(8);
        Due.due("30: count(4), those above 18 degrees", x.count(4), 6);
        Due.due("30: count(5)", x.count(5), 8);
    }

    /** Calls without a SHEET leave status() as it is, whatever they answer. */
    private static void status() {
        SweetLine x = Due.withBars(Due.GOOD, 5, 3, 1);
        Due.due("31: status() before", x.status(), 0);
        Due.due("31: a finding", x.drop(2), Due.NULL);
        Due.due("31: status()", x.status(), 1);
        x.feed(0, 1);
        x.recipes();
        x.temper(0, 0, 0, 0);
        x.fill(1, 0, 5, 0, 0);
        x.fill(1, 0, 5, 5, 0);
        x.ready(1);
        x.drain(1);
        x.tank(1, 0);
        x.belt(9);
        x.gear(0, 50);
        x.beat(1);
        x.mould(0, 0);
        x.correct();
        x.bar(0, 0);
        x.recall(0);
        x.melt(0);
        x.bin(0);
        x.grams(0);
        x.kind(0);
        x.ask(0, 0);
        x.trace(0);
        x.count(0);
        x.fault();
        Due.due("31: status() is as it was", x.status(), 1);
        x.sheet(9, 0, 0);
        x.set(-1, 0, 0);
        x.copy(0, 0, 8, 0, 0);
        x.drop(8);
        x.bloom(0, 0, 0, 0, 0);
        x.orders(0, 0, 0, 0);
        x.as(0, 5);
        Due.due("31: status() stays with BAD", x.status(), 1);
        Due.due("31: as(0, 2)", x.as(0, 2), 50);
        Due.due("31: status() of a call without a finding", x.status(), 0);
        Due.due("31: status() itself", x.status(), 0);
    }
}
