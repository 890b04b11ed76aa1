import java.util.ArrayList;
import java.util.List;

/** What is refused, or found, changes nothing but status(): twins, one of which is refused much. */
public final class RefusalsTest {
    private static final int LOW = Integer.MIN_VALUE, HIGH = Integer.MAX_VALUE;

    public static void main(String[] args) {
        SweetLine calm = busyLine();
        SweetLine refused = busyLine();
        refuseLine(refused);
        refuseSheets(refused);
        Due.due("status() of the last finding", refused.status(), 3);
        Due.due("status() of the twin", calm.status(), 0);
        List<Integer> want = allSeen(calm);
        List<Integer> got = allSeen(refused);
        Due.due("how many are seen", got.size(), want.size());
        for (int k = 0; k < want.size(); k++) {
            Due.due("answer " + k + " of all that is seen", got.get(k), want.get(k));
        }
        Due.end();
    }

    /** Some of everything: bars of several kinds, a bin, full moulds, sheets, a tape, a trace. */
    private static SweetLine busyLine() {
        SweetLine x = Due.withBars(Due.GOOD + Due.RAW, 6, 2, 3);
        x.fill(1, 1, 99, 0, 5);
        x.gear(2, 1);
        x.beat(1);
        x.gear(2, 0);
        x.beat(6);
        x.recall(5);
        Due.due("melt(9) comes to BIN 1", x.melt(9), 52);
        Due.setAll(x, 0, 1, 3, 18, 5, 2, 9, 9, 4, 1, 12);
        Due.setAll(x, 3, 0, 1, 2, 3);
        x.feed(0x726563L, 3);
        x.ask(0, 1);
        x.as(0, 0);
        return x;
    }

    private static void refuseLine(SweetLine x) {
        Due.due("feed", x.feed(0, 9), Due.BAD);
        Due.due("temper", x.temper(0, 61, 0, 0), Due.BAD);
        Due.due("fill", x.fill(0, 0, 5, 0, 10), Due.BAD);
        Due.due("fill, another RECIPE", x.fill(0, 1, 5, 0, 1), Due.STATE);
        Due.due("fill, the BIN has less", x.fill(0, 0, 5, 1, 1), Due.STATE);
        Due.due("fill, too much rework", x.fill(2, 1, 60, 40, 1), Due.STATE);
        Due.due("ready", x.ready(4), Due.BAD);
        Due.due("ready, empty", x.ready(2), Due.STATE);
        Due.due("drain", x.drain(-1), Due.BAD);
        Due.due("tank", x.tank(0, 7), Due.BAD);
        Due.due("belt", x.belt(16), Due.BAD);
        Due.due("belt, not empty", x.belt(9), Due.STATE);
        Due.due("gear", x.gear(0, 201), Due.BAD);
        Due.due("gear", x.gear(15, 0), Due.BAD);
        Due.due("beat", x.beat(101), Due.BAD);
        Due.due("beat", x.beat(0), Due.BAD);
        Due.due("mould", x.mould(8, 0), Due.BAD);
        Due.due("bar", x.bar(40, 0), Due.BAD);
        Due.due("recall", x.recall(10), Due.BAD);
        Due.due("recall", x.recall(-1), Due.BAD);
        Due.due("melt", x.melt(40), Due.BAD);
        Due.due("melt, good", x.melt(0), Due.STATE);
        Due.due("melt, again", x.melt(9), Due.STATE);
        Due.due("bin", x.bin(2), Due.BAD);
        Due.due("grams", x.grams(6), Due.BAD);
        Due.due("kind", x.kind(-1), Due.BAD);
        Due.due("ask", x.ask(-1, 0), Due.BAD);
        Due.due("ask", x.ask(0, 2), Due.BAD);
        Due.due("trace", x.trace(LOW), Due.NONE);
        Due.due("count", x.count(8), Due.BAD);
    }

    private static void refuseSheets(SweetLine x) {
        Due.due("sheet", x.sheet(0, 3, 2), Due.BAD);
        Due.due("sheet", x.sheet(0, 0, 61), Due.BAD);
        Due.due("sheet", x.sheet(0, 0, -1), Due.SIZE);
        Due.due("set", x.set(8, 0, 7), Due.BAD);
        Due.due("set", x.set(7, 0, 7), Due.NULL);
        Due.due("set", x.set(0, 9, 7), Due.PLACE);
        Due.due("copy", x.copy(0, 0, 8, 0, 1), Due.BAD);
        Due.due("copy", x.copy(0, 0, 7, 0, 1), Due.NULL);
        Due.due("copy", x.copy(0, 0, 3, 0, 3), Due.STORE);
        Due.due("copy, some would fit", x.copy(0, 0, 0, 1, 9), Due.PLACE);
        Due.due("copy", x.copy(0, 1, 0, 0, HIGH), Due.PLACE);
        Due.due("drop", x.drop(8), Due.BAD);
        Due.due("drop", x.drop(7), Due.NULL);
        Due.due("bloom", x.bloom(0, 7, 0, 1, 0), Due.NULL);
        Due.due("bloom", x.bloom(0, 0, 8, 1, 0), Due.PLACE);
        Due.due("orders", x.orders(7, 0, 1, 0), Due.NULL);
        Due.due("orders", x.orders(0, 0, 4, 0), Due.PLACE);
        Due.due("as", x.as(0, 4), Due.KIND);
        Due.due("bloom", x.bloom(0, 0, 0, 0, 0), Due.BAD);
        Due.due("orders, an ITEM", x.orders(0, 1, 1, 0), Due.BAD);
        Due.due("as", x.as(0, 5), Due.BAD);
    }

    private static List<Integer> allSeen(SweetLine x) {
        List<Integer> seen = new ArrayList<>();
        for (int i = 0; i <= 7; i++) {
            seen.add(x.trace(i));
            seen.add(x.count(i));
        }
        for (int tank = 0; tank < 4; tank++) {
            for (int what = 0; what <= 6; what++) {
                seen.add(x.tank(tank, what));
            }
        }
        for (int station = 0; station < 8; station++) {
            for (int what = 0; what <= 5; what++) {
                seen.add(x.mould(station, what));
            }
        }
        for (int bar = 0; bar < 10; bar++) {
            for (int what = 0; what <= 6; what++) {
                seen.add(x.bar(bar, what));
            }
            seen.add(x.kind(bar));
        }
        for (int what = 0; what <= 5; what++) {
            seen.add(x.grams(what));
        }
        sheetsSeen(x, seen);
        whatComesSeen(x, seen);
        return seen;
    }

    private static void sheetsSeen(SweetLine x, List<Integer> seen) {
        for (int k = -1; k < 3; k++) {
            seen.add(x.orders(0, 0, 3, k));
        }
        for (int i = 0; i <= 1; i++) {
            seen.add(x.bloom(0, 0, i, 1, 0));
            seen.add(x.bloom(0, 3, i, 1, 0));
        }
        for (int sheet = 0; sheet < 8; sheet++) {
            seen.add(x.set(sheet, 0, 40000));
            seen.add(x.drop(sheet));
        }
    }

    /** What was not changed is seen by what comes of it, too. */
    private static void whatComesSeen(SweetLine x, List<Integer> seen) {
        int[] gears = {50, 0, 0, 3, 3, 3, 3, 3, 3, 3, 3, 3, 3, 0, 0};
        for (int what = 0; what < gears.length; what++) {
            seen.add(x.gear(what, gears[what]));
        }
        seen.add(x.bin(0));
        seen.add(x.bin(1));
        seen.add(x.beat(30));
        seen.add(x.correct());
        seen.add(x.recall(5));
        seen.add(x.count(6));
        seen.add(x.recipes());
        seen.add(x.fault());
    }
}
