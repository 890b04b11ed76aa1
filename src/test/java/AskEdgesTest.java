/** Promises 26 to 31, the edges: each sentence on KINDS, ASKS, THE TRACE, counts and status that names one. */
public final class AskEdgesTest {
    private static final int LOW = Integer.MIN_VALUE, HIGH = Integer.MAX_VALUE;

    public static void main(String[] args) {
        kinds();
        firstThatFits();
        takenAs();
        asksOfPlain();
        asksOfFilled();
        asksOfDull();
        asksOfRecalled();
        asksOfMissedOnes();
        traceIsEmptyAhead();
        tracePlaces();
        counts();
        statusOfAs();
        statusOfOthers();
        Due.end();
    }

    private static String goodWith(int allergens) {
        return "recipe " + allergens + " 50 warm 31 20 seed 20;";
    }

    private static void kinds() {
        for (int allergens = 0; allergens <= 15; allergens++) {
            for (int filling : new int[] {0, 1, 100}) {
                SweetLine x = Due.withBars(goodWith(allergens), filling, 0, 1);
                int kind = filling == 0 ? 0 : allergens % 2 == 0 ? 1 : 2;
                Due.due("26: allergens " + allergens + ", filling " + filling, x.kind(0), kind);
            }
        }
        SweetLine x = Due.withBars(Due.GOOD, 1, 0, 1);
        for (int bar : Due.outside(0, 0)) {
            Due.due("26: kind(" + bar + ")", x.kind(bar), Due.BAD);
        }
    }

    /** RECALLED ahead of DULL ahead of NUTTY ahead of FILLED ahead of BAR. */
    private static void firstThatFits() {
        SweetLine x = Due.withBars("recipe 1 0;", 5, 7, 1);
        Due.due("26: DULL ahead of NUTTY", x.kind(0), 3);
        x.recall(7);
        Due.due("26: RECALLED ahead of DULL", x.kind(0), 4);
        SweetLine y = Due.withBars(Due.GOOD, 5, 7, 1);
        Due.due("26: NUTTY ahead of FILLED", y.kind(0), 2);
        y.recall(6);
        Due.due("26: another LOT", y.kind(0), 2);
        y.recall(7);
        Due.due("26: RECALLED ahead of NUTTY", y.kind(0), 4);
        SweetLine z = Due.withBars("recipe 0 0;", 5, 7, 1);
        Due.due("26: DULL ahead of FILLED", z.kind(0), 3);
        SweetLine u = Due.cold(Due.PLAIN);
        for (int lot = 0; lot <= 9; lot++) {
            u.fill(0, 0, 10, 0, lot);
        }
        u.ready(0);
        u.beat(7);
        Due.due("26: BAR", u.kind(0), 0);
        u.recall(4);
        Due.due("26: one of its ten LOTS", u.kind(0), 4);
    }

    private static void takenAs() {
        int[] fits = {0b00001, 0b00011, 0b00111, 0b01001, 0b10001};
        for (int told = 0; told <= 4; told++) {
            SweetLine x = ofKind(told);
            Due.due("26: KIND", x.kind(0), told);
            for (int kind = 0; kind <= 4; kind++) {
                boolean is = (fits[told] >> kind & 1) == 1;
                Due.due("27: " + told + " as " + kind, x.as(0, kind), is ? 50 : Due.KIND);
                Due.due("31: status()", x.status(), is ? 0 : 3);
            }
            for (int kind : Due.outside(0, 4)) {
                Due.due("27: as(0, " + kind + ")", x.as(0, kind), Due.BAD);
            }
            for (int bar : Due.outside(0, 0)) {
                Due.due("27: BAD ahead of KIND", x.as(bar, 3), Due.BAD);
            }
        }
    }

    /** A line whose BAR 0 is of the KIND, with 50 grams, BEAT 6, LOT 9. */
    private static SweetLine ofKind(int kind) {
        String text = kind == 3 ? "recipe 1 0;" : kind == 2 ? goodWith(15) : goodWith(14);
        SweetLine x = Due.withBars(text, kind == 0 ? 0 : 8, 9, 1);
        if (kind == 4) {
            x.recall(9);
        }
        return x;
    }

    private static void dueAsk(SweetLine x, int bar, int what, int want, int... trace) {
        Due.due("28: ask(" + bar + ", " + what + ")", x.ask(bar, what), want);
        for (int i = 0; i < 17; i++) {
            int number = i < trace.length ? trace[i] : Due.NONE;
            Due.due("29: trace(" + i + ") of ask(" + bar + ", " + what + ")", x.trace(i), number);
        }
    }

    private static void asksOfPlain() {
        SweetLine x = ofKind(0);
        dueAsk(x, 0, 0, 50, 10);
        dueAsk(x, 0, 1, 6, 20);
        for (int what : Due.outside(0, 1)) {
            Due.due("28: ask(0, " + what + ")", x.ask(0, what), Due.BAD);
        }
        for (int bar : Due.outside(0, 0)) {
            Due.due("28: ask(" + bar + ", 0)", x.ask(bar, 0), Due.BAD);
        }
    }

    private static void asksOfFilled() {
        dueAsk(ofKind(1), 0, 0, 58, 11, 10);
        dueAsk(ofKind(1), 0, 1, 1006, 21, 20);
        dueAsk(ofKind(2), 0, 0, 116, 12, 11, 10);
        dueAsk(ofKind(2), 0, 1, 1006 + 116, 22, 21, 20, 12, 11, 10);
    }

    private static void asksOfDull() {
        dueAsk(ofKind(3), 0, 0, 44, 13, 10, 20);
        dueAsk(ofKind(3), 0, 1, 6, 20);
        SweetLine x = Due.cold(Due.RAW);
        x.beat(100);
        x.gear(0, 10);
        x.fill(0, 0, 10, 0, 0);
        x.beat(7);
        dueAsk(x, 0, 0, 10 - 106, 13, 10, 20);
    }

    private static void asksOfRecalled() {
        dueAsk(ofKind(4), 0, 0, -50, 14, 10);
        dueAsk(ofKind(4), 0, 1, 6 + 512, 23, 20);
        SweetLine x = Due.cold(Due.GOOD);
        for (int lot = 0; lot <= 9; lot++) {
            x.fill(0, 0, 10, 0, lot);
        }
        x.gear(1, 9);
        x.ready(0);
        x.recall(0);
        x.beat(7);
        dueAsk(x, 0, 1, 6 + 1023, 23, 20);
        dueAsk(x, 0, 0, -50, 14, 10);
    }

    /** The last of many, with the most grams: what an ask gives has no bound of its own. */
    private static void asksOfMissedOnes() {
        SweetLine x = Due.cold(goodWith(1));
        x.beat(100);
        x.gear(0, 200);
        x.gear(13, 20);
        x.gear(14, 5);
        x.gear(1, 100);
        x.fill(0, 0, 225, 0, 0);
        x.ready(0);
        x.beat(7);
        dueAsk(x, 0, 0, 650, 12, 11, 10);
        dueAsk(x, 0, 1, 106 + 1000 + 650, 22, 21, 20, 12, 11, 10);
    }

    private static void traceIsEmptyAhead() {
        SweetLine x = ofKind(2);
        for (int i = 0; i < 16; i++) {
            Due.due("29: trace(" + i + ") before an ask", x.trace(i), Due.NONE);
        }
        x.ask(0, 1);
        x.ask(0, 0);
        Due.due("28: THE TRACE of the latest alone", x.trace(0), 12);
        Due.due("28: THE TRACE of the latest alone", x.trace(3), Due.NONE);
        x.ask(1, 0);
        x.ask(0, 2);
        x.kind(0);
        x.as(0, 4);
        x.recall(9);
        Due.due("29: it stays until an ask", x.trace(2), 10);
        x.ask(0, 0);
        Due.due("29: another KIND by now", x.trace(0), 14);
    }

    private static void tracePlaces() {
        SweetLine x = ofKind(2);
        x.ask(0, 1);
        Due.due("29: the last", x.trace(5), 10);
        for (int i : Due.outside(0, 5)) {
            Due.due("29: trace(" + i + ")", x.trace(i), Due.NONE);
        }
        for (int i = 6; i <= 17; i++) {
            Due.due("29: trace(" + i + ")", x.trace(i), Due.NONE);
        }
    }

    private static void counts() {
        SweetLine x = Due.withBars(Due.RAW, 0, 1, 42);
        for (int sheet = 0; sheet < 8; sheet++) {
            Due.due("30: SHEETS", x.count(0), sheet);
            x.sheet(sheet, 0, 0);
        }
        Due.due("30: all SHEETS", x.count(0), 8);
        x.drop(0);
        Due.due("30: SHEETS but one", x.count(0), 7);
        Due.due("30: RECIPES", x.count(1), 1);
        Due.due("30: BARS that came", x.count(2), 42);
        Due.due("30: BEATS", x.count(3), 48);
        Due.due("30: MISSED", x.count(4), 0);
        Due.due("30: MOULDS that are not empty", x.count(5), 6);
        x.recall(1);
        Due.due("30: those that are kept and RECALLED", x.count(6), 40);
        Due.feedText(x, " ".repeat(400));
        Due.due("30: bytes on the tape", x.count(7), 400);
        for (int what : Due.outside(0, 7)) {
            Due.due("30: count(" + what + ")", x.count(what), Due.BAD);
        }
    }

    private static void statusOfAs() {
        SweetLine x = ofKind(0);
        Due.due("31: there was none", x.status(), 0);
        Due.due("31: KIND", x.as(0, 1), Due.KIND);
        Due.due("31: its number", x.status(), 3);
        Due.due("31: it stays", x.status(), 3);
        Due.due("31: BAD", x.as(0, 5), Due.BAD);
        Due.due("31: BAD", x.as(1, 0), Due.BAD);
        Due.due("31: the one before", x.status(), 3);
        Due.due("31: none", x.as(0, 0), 50);
        Due.due("31: it had none", x.status(), 0);
    }

    /** Calls without a SHEET leave it, refused or not; so do BAD ones with a SHEET. */
    private static void statusOfOthers() {
        String[] others = {"feed", "recipes", "fault", "temper", "fill", "ready", "drain", "tank", "belt", "gear", "beat",
            "mould", "correct", "bar", "recall", "melt", "bin", "grams", "kind", "ask", "trace", "count", "status"};
        int[] arguments = {2, 0, 0, 4, 5, 1, 1, 2, 1, 2, 1, 2, 0, 2, 1, 1, 1, 1, 1, 2, 1, 1, 0};
        for (int k = 0; k < others.length; k++) {
            for (int v : new int[] {0, 1, 3, 9, -1, LOW, HIGH}) {
                SweetLine x = ofKind(4);
                x.sheet(0, 0, -1);
                long[] a = new long[arguments[k]];
                java.util.Arrays.fill(a, v);
                Run.make(x, others[k], a);
                Due.due("31: status() behind " + Run.told(others[k], a), x.status(), 4);
            }
        }
        SweetLine x = ofKind(3);
        x.sheet(0, 0, -1);
        x.sheet(8, 0, -1);
        x.sheet(0, 0, 61);
        x.set(8, 0, 0);
        x.copy(8, 0, 0, 0, 0);
        x.drop(8);
        x.bloom(0, 0, 0, 0, 0);
        x.orders(0, 0, 8, 0);
        Due.due("31: status() behind BAD ones", x.status(), 4);
    }
}
