/** Promises 19 to 23: bar, recall, melt, bin, grams. */
public final class BarsTest {
    private static final int LOW = Integer.MIN_VALUE, HIGH = Integer.MAX_VALUE;

    public static void main(String[] args) {
        bar();
        recall();
        meltDull();
        meltRecalled();
        bin();
        grams();
        sumsClose();
        Due.end();
    }

    private static void bar() {
        SweetLine x = Due.withBars(Due.GOOD, 3, 2, 2);
        int[] want = {50, 3, 0, 4, 1, 7, 0};
        for (int what = 0; what < want.length; what++) {
            Due.due("19: bar(1, " + what + ")", x.bar(1, what), want[what]);
        }
        Due.due("19: bar(0, 4) of one that is not good", Due.withBars(Due.RAW, 3, 2, 1).bar(0, 4), 0);
        int[][] bad = {{-1, 0}, {2, 0}, {0, -1}, {0, 7}, {LOW, 0}, {HIGH, 0}, {0, HIGH}};
        for (int[] b : bad) {
            Due.due("19: bar(" + b[0] + ", " + b[1] + ")", x.bar(b[0], b[1]), Due.BAD);
        }
        SweetLine y = Due.withBars(Due.PLAIN, 0, 0, 45);
        Due.due("19: count(2)", y.count(2), 45);
        Due.due("19: the 40th is kept", y.bar(39, 5), 45);
        Due.due("19: the 41st is not", y.bar(40, 5), Due.BAD);
        Due.due("19: the first stays", y.bar(0, 5), 6);
    }

    private static void recall() {
        SweetLine x = Due.withBars(Due.PLAIN, 0, 9, 3);
        Due.due("20: recall(-1)", x.recall(-1), Due.BAD);
        Due.due("20: recall(10)", x.recall(10), Due.BAD);
        Due.due("20: recall(32 + 9)", x.recall(41), Due.BAD);
        Due.due("20: recall(0)", x.recall(0), 0);
        Due.due("20: count(6)", x.count(6), 0);
        Due.due("20: recall(9)", x.recall(9), 3);
        Due.due("20: count(6)", x.count(6), 3);
        Due.due("20: kind(0)", x.kind(0), 4);
        x.fill(0, 0, 10, 0, 0);
        x.beat(2);
        Due.due("20: those that come later are recalled, too", x.count(6), 5);
        x.beat(6);
        Due.due("20: recall(0) of those that have it", x.recall(0), 11 - 9);
        Due.due("20: recall(9) once more", x.recall(9), 11);
        Due.due("20: recall(5) of none", x.recall(5), 0);
        Due.due("20: a lot stays called back", x.count(6), 11);
        SweetLine y = Due.withBars(Due.PLAIN, 0, 1, 45);
        Due.due("20: only those that are kept", y.recall(1), 40);
        Due.due("20: count(6)", y.count(6), 40);
    }

    private static void meltDull() {
        SweetLine x = Due.withBars(Due.RAW, 5, 0, 5);
        Due.due("21: melt(-1)", x.melt(-1), Due.BAD);
        Due.due("21: melt(5)", x.melt(5), Due.BAD);
        Due.due("21: bin(0)", x.bin(0), 0);
        Due.due("21: melt(4)", x.melt(4), 51);
        Due.due("21: bar(4, 6)", x.bar(4, 6), 1);
        Due.due("21: bar(3, 6)", x.bar(3, 6), 0);
        Due.due("21: melt(4) again", x.melt(4), Due.STATE);
        Due.due("21: melt(0)", x.melt(0), 101);
        Due.due("21: bin(0)", x.bin(0), 101);
        Due.due("21: it stays a bar", x.bar(0, 0), 50);
        Due.due("21: grams(3) is not changed", x.grams(3), 251);
        Due.due("21: kind(0) is not changed", x.kind(0), 3);
    }

    private static void meltRecalled() {
        SweetLine x = Due.withBars(Due.GOOD, 5, 6, 3);
        Due.due("21: melt(0) of a NUTTY one", x.melt(0), Due.STATE);
        Due.due("21: bar(0, 6)", x.bar(0, 6), 0);
        x.recall(6);
        Due.due("21: melt(0) of a RECALLED one", x.melt(0), 50);
        Due.due("21: melt(0) again", x.melt(0), Due.STATE);
        SweetLine y = Due.withBars(Due.PLAIN, 5, 6, 1);
        Due.due("21: melt(0) of a FILLED one", y.melt(0), Due.STATE);
        SweetLine z = Due.withBars(Due.PLAIN, 0, 6, 1);
        Due.due("21: melt(0) of a BAR", z.melt(0), Due.STATE);
        Due.due("21: bin(0)", z.bin(0), 0);
    }

    private static void bin() {
        SweetLine x = Due.cold(Due.PLAIN + Due.RAW);
        x.fill(0, 1, 500, 0, 0);
        x.beat(8);
        x.melt(0);
        Due.due("22: bin(-1)", x.bin(-1), Due.BAD);
        Due.due("22: bin(2)", x.bin(2), Due.BAD);
        Due.due("22: bin(6)", x.bin(6), Due.BAD);
        Due.due("22: bin(0)", x.bin(0), 0);
        Due.due("22: bin(1)", x.bin(1), 50);
        x.fill(1, 1, 100, 30, 0);
        Due.due("22: bin(1) less what was filled", x.bin(1), 20);
        Due.due("22: bin(0) of a new object", new SweetLine().bin(0), Due.BAD);
    }

    private static void dueGrams(SweetLine x, int... want) {
        for (int what = 0; what < want.length; what++) {
            Due.due("23: grams(" + what + ")", x.grams(what), want[what]);
        }
    }

    private static void grams() {
        SweetLine x = Due.withBars(Due.RAW, 30, 0, 0);
        Due.due("23: grams(-1)", x.grams(-1), Due.BAD);
        Due.due("23: grams(6)", x.grams(6), Due.BAD);
        dueGrams(x, 20000, 19698, 302, 0, 0, 0);
        x.beat(4);
        dueGrams(x, 20000, 19492, 308, 200, 0, 0);
        x.beat(4);
        dueGrams(x, 20000, 19282, 314, 404, 0, 4);
        x.gear(0, 60);
        x.beat(2);
        Due.due("23: given away is by TARGET as they came", x.grams(5), 4);
        x.gear(0, 10);
        x.beat(1);
        Due.due("23: 52 over 10", x.grams(5), 46);
        Due.due("23: given away before stays", x.gear(0, 50) + x.grams(5), 56);
        x.fill(3, 0, 7, 0, 0);
        x.drain(3);
        Due.due("23: grams(4)", x.grams(4), 7);
        Due.due("23: grams(0)", x.grams(0), 20007);
        SweetLine y = Due.withBars(Due.RAW, 0, 0, 60);
        y.beat(20);
        Due.due("23: bars that are not kept count", y.grams(3) > 40 * 55 ? 1 : 0, 1);
        Due.due("23: closed", y.grams(0) - y.grams(1) - y.grams(2) - y.grams(3) - y.grams(4), 0);
    }

    private static void sumsClose() {
        SweetLine x = Due.cold(Due.GOOD + Due.RAW);
        for (int round = 0; round < 12; round++) {
            x.fill(round % 4, round % 2, 700 + round, 0, round % 10);
            x.ready(round % 3);
            x.gear(2, (round + 1) % 4);
            x.gear(0, 30 + 10 * round);
            x.beat(9);
            x.correct();
            x.drain(round * 7 % 4);
            for (int bar = 0; bar < 3; bar++) {
                x.melt(3 * round + bar);
            }
            x.fill(2, 0, 100, Math.min(20, Math.max(0, x.bin(0))), 3);
            int open = x.grams(0) - x.grams(1) - x.grams(2) - x.grams(3) - x.grams(4);
            Due.due("23: closed in round " + round, open, 0);
        }
    }
}
