/** Promises 10 to 13: fill, ready, drain, tank. */
public final class TanksTest {
    public static void main(String[] args) {
        fill();
        fillRefuses();
        rework();
        reworkGoesWithGrams();
        ready();
        drain();
        tank();
        Due.end();
    }

    private static void dueTank(SweetLine x, int tank, int... want) {
        for (int what = 0; what < want.length; what++) {
            Due.due("13: tank(" + tank + ", " + what + ")", x.tank(tank, what), want[what]);
        }
    }

    private static void fill() {
        SweetLine x = Due.told(Due.GOOD + Due.RAW);
        Due.due("10: fill(3, 0, 1, 0, 0)", x.fill(3, 0, 1, 0, 0), 1);
        dueTank(x, 3, 1, 0, 0, 1, 45, 0, 0);
        Due.due("10: fill(3, 0, 20000, 0, 9)", x.fill(3, 0, 20000, 0, 9), 20001);
        dueTank(x, 3, 20001, 0, 0, 513, 45, 0, 0);
        Due.due("10: ready(3)", x.ready(3), 1);
        Due.due("10: fill(3, 0, 10, 0, 9)", x.fill(3, 0, 10, 0, 9), 20011);
        dueTank(x, 3, 20011, 0, 0, 513, 31, 20, 1);
        Due.due("10: fill(0, 1, 7, 0, 4), another tank", x.fill(0, 1, 7, 0, 4), 7);
        dueTank(x, 0, 7, 0, 1, 16, 45, 0, 0);
        Due.due("10: grams(0)", x.grams(0), 20018);
        Due.due("10: grams(1)", x.grams(1), 20018);
        Due.due("10: drain(3)", x.drain(3), 20011);
        Due.due("10: fill of another recipe, it is empty", x.fill(3, 1, 5, 0, 1), 5);
        dueTank(x, 3, 5, 0, 1, 2, 45, 0, 0);
    }

    private static void fillRefuses() {
        SweetLine x = Due.told(Due.GOOD + Due.RAW);
        int[][] bad = {{-1, 0, 1, 0, 0}, {4, 0, 1, 0, 0}, {0, -1, 1, 0, 0}, {0, 2, 1, 0, 0}, {0, 0, 0, 0, 0},
            {0, 0, -1, 0, 0}, {0, 0, 20001, 0, 0}, {0, 0, 5, -1, 0}, {0, 0, 5, 6, 0}, {0, 0, 5, 0, -1},
            {0, 0, 5, 0, 10}};
        for (int[] b : bad) {
            String call = "10: fill(" + b[0] + ", " + b[1] + ", " + b[2] + ", " + b[3] + ", " + b[4] + ")";
            Due.due(call, x.fill(b[0], b[1], b[2], b[3], b[4]), Due.BAD);
        }
        for (int k = 1; k <= 4; k++) {
            x.fill(1, 0, 20000, 0, 0);
        }
        Due.due("10: fill to 100000", x.fill(1, 0, 20000, 0, 1), Due.STATE);
        dueTank(x, 1, 80000, 0, 0, 1);
        Due.due("10: fill to 99999", x.fill(1, 0, 19999, 0, 1), 99999);
        Due.due("10: fill above 99999", x.fill(1, 0, 1, 0, 1), Due.STATE);
        Due.due("10: fill of another recipe", x.fill(1, 1, 1, 0, 1), Due.STATE);
        Due.due("10: BAD ahead of STATE", x.fill(1, 1, 1, 0, 10), Due.BAD);
        Due.due("10: the bin has less", x.fill(0, 1, 2, 1, 0), Due.STATE);
        Due.due("10: grams(0)", x.grams(0), 99999);
    }

    /** Ten raw bars of 50 to 52 grams, all of them melted, so that BIN 0 has 508 grams. */
    private static SweetLine withBin() {
        SweetLine x = Due.cold("recipe 0 50;recipe 0 20;");
        x.fill(0, 0, 20000, 0, 0);
        x.beat(16);
        for (int bar = 0; bar < 10; bar++) {
            x.melt(bar);
        }
        return x;
    }

    private static void rework() {
        SweetLine x = withBin();
        Due.due("10: bin(0)", x.bin(0), 508);
        Due.due("10: more than the bin has", x.fill(1, 0, 2000, 509, 0), Due.STATE);
        Due.due("10: above the share", x.fill(1, 0, 201, 101, 0), Due.STATE);
        Due.due("10: above the share by a little", x.fill(1, 0, 199, 100, 0), Due.STATE);
        Due.due("10: bin(0) is as it was", x.bin(0), 508);
        Due.due("10: at the share", x.fill(1, 0, 200, 100, 0), 200);
        dueTank(x, 1, 200, 100, 0, 1);
        Due.due("10: bin(0)", x.bin(0), 408);
        Due.due("10: the rework there counts", x.fill(1, 0, 1, 1, 0), Due.STATE);
        Due.due("10: all of the bin", x.fill(1, 0, 816, 408, 0), 1016);
        Due.due("10: bin(0)", x.bin(0), 0);
        dueTank(x, 1, 1016, 508);
        Due.due("10: another recipe's bin is another", x.fill(2, 1, 100, 1, 0), Due.STATE);
        Due.due("10: rework is of the grams", x.grams(0), 21016);
    }

    private static void reworkGoesWithGrams() {
        SweetLine x = withBin();
        x.fill(1, 0, 203, 101, 5);
        x.gear(2, 1);
        x.gear(0, 10);
        x.gear(14, 0);
        x.beat(8);
        Due.due("10: moulds of TANK 1", x.mould(0, 0) + x.mould(1, 0), 22);
        // 203 with 101, then 4 of 10, 4 of 11 grams: each takes rework times grams by stuff, cut.
        int stuff = 203;
        int rework = 101;
        for (int poured = 0; poured < 8; poured++) {
            int grams = 10 + poured / 4;
            rework -= rework * grams / stuff;
            stuff -= grams;
        }
        dueTank(x, 1, stuff, rework, 0, 32);
        x.drain(1);
        dueTank(x, 1, 0, 0, Due.NONE, 0, Due.NONE, Due.NONE, Due.NONE);
        SweetLine y = withBin();
        y.fill(1, 0, 10, 5, 5);
        y.gear(2, 1);
        y.gear(0, 10);
        y.gear(14, 0);
        y.beat(1);
        dueTank(y, 1, 0, 0, Due.NONE, 0, Due.NONE, Due.NONE, Due.NONE);
        SweetLine z = withBin();
        z.fill(1, 0, 12, 6, 5);
        z.gear(2, 1);
        z.gear(0, 10);
        z.gear(14, -5);
        z.beat(1);
        dueTank(z, 1, 7, 4, 0, 32);
        Due.due("10: too much rework is left, so even new stuff is refused", z.fill(1, 0, 1, 1, 0), Due.STATE);
        Due.due("10: with enough of new stuff it is not", z.fill(1, 0, 1, 0, 0), 8);
    }

    private static void ready() {
        SweetLine x = Due.told("recipe 0 0 warm 31 20 seed 20;recipe 0 0 seed 50 seed 50;");
        Due.due("11: ready(-1)", x.ready(-1), Due.BAD);
        Due.due("11: ready(4)", x.ready(4), Due.BAD);
        Due.due("11: ready(0) of an empty one", x.ready(0), Due.STATE);
        x.fill(0, 0, 100, 0, 0);
        x.fill(1, 1, 100, 0, 0);
        Due.due("11: ready(0)", x.ready(0), 1);
        dueTank(x, 0, 100, 0, 0, 1, 31, 20, 1);
        dueTank(x, 1, 100, 0, 1, 1, 45, 0, 0);
        Due.due("11: ready(0) from where it was", x.ready(0), 1);
        dueTank(x, 0, 100, 0, 0, 1, 31, 60, 1);
        Due.due("11: ready(0) once more", x.ready(0), 2);
        Due.due("11: ready(1)", x.ready(1), 2);
        x.drain(0);
        Due.due("11: ready(0) of a drained one", x.ready(0), Due.STATE);
        x.fill(0, 0, 100, 0, 0);
        dueTank(x, 0, 100, 0, 0, 1, 45, 0, 0);
    }

    private static void drain() {
        SweetLine x = Due.told(Due.GOOD);
        Due.due("12: drain(-1)", x.drain(-1), Due.BAD);
        Due.due("12: drain(4)", x.drain(4), Due.BAD);
        Due.due("12: drain(0) of an empty one", x.drain(0), 0);
        x.fill(0, 0, 300, 0, 1);
        x.fill(3, 0, 40, 0, 1);
        Due.due("12: drain(0)", x.drain(0), 300);
        dueTank(x, 0, 0, 0, Due.NONE, 0, Due.NONE, Due.NONE, Due.NONE);
        Due.due("12: grams(4)", x.grams(4), 300);
        Due.due("12: drain(3)", x.drain(3), 40);
        Due.due("12: drain(3) again", x.drain(3), 0);
        Due.due("12: grams(4)", x.grams(4), 340);
    }

    private static void tank() {
        SweetLine x = new SweetLine();
        for (int tank = 0; tank < 4; tank++) {
            dueTank(x, tank, 0, 0, Due.NONE, 0, Due.NONE, Due.NONE, Due.NONE);
        }
        int[][] bad = {{-1, 0}, {4, 0}, {0, -1}, {0, 7}, {3, Integer.MAX_VALUE}, {Integer.MIN_VALUE, 0}};
        for (int[] b : bad) {
            Due.due("13: tank(" + b[0] + ", " + b[1] + ")", x.tank(b[0], b[1]), Due.BAD);
        }
    }
}
