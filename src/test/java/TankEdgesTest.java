/** Promises 10 to 13, the edges: each sentence on TANKS that names one. */
public final class TankEdgesTest {
    public static void main(String[] args) {
        emptyAtFirst();
        grams();
        mostStuff();
        lots();
        anotherRecipe();
        emptyThen45();
        shares();
        sharesAreNotCut();
        binHasLess();
        reworkIsOfTheGrams();
        aboveTheShareByPouring();
        reworkIsCut();
        nothingIsLeft();
        badAheadOfState();
        ready();
        drain();
        Due.end();
    }

    private static void dueTank(SweetLine x, String call, int tank, int... want) {
        for (int what = 0; what < want.length; what++) {
            Due.due(call + ": tank(" + tank + ", " + what + ")", x.tank(tank, what), want[what]);
        }
    }

    private static void dueEmpty(SweetLine x, String call, int tank) {
        dueTank(x, call, tank, 0, 0, Due.NONE, 0, Due.NONE, Due.NONE, Due.NONE);
    }

    private static void emptyAtFirst() {
        SweetLine x = Due.told(Due.RAW);
        for (int tank = 0; tank < 4; tank++) {
            dueEmpty(x, "13: empty at first", tank);
        }
        for (int tank : Due.outside(0, 3)) {
            Due.due("13: tank(" + tank + ", 0)", x.tank(tank, 0), Due.BAD);
        }
        for (int what : Due.outside(0, 6)) {
            Due.due("13: tank(0, " + what + ") of an empty one", x.tank(0, what), Due.BAD);
        }
        x.fill(0, 0, 1, 0, 0);
        for (int what : Due.outside(0, 6)) {
            Due.due("13: tank(0, " + what + ")", x.tank(0, what), Due.BAD);
        }
    }

    private static void grams() {
        SweetLine x = Due.told(Due.RAW);
        for (int tank = 0; tank < 4; tank++) {
            Due.due("10: 1 gram", x.fill(tank, 0, 1, 0, 0), 1);
            Due.due("10: 20000 grams", x.fill(tank, 0, 20000, 0, 0), 20001);
        }
        for (int grams : Due.outside(1, 20000)) {
            Due.due("10: " + grams + " grams", x.fill(0, 0, grams, 0, 0), Due.BAD);
        }
        for (int rework : Due.outside(0, 7)) {
            Due.due("10: " + rework + " of 7 is rework", x.fill(0, 0, 7, rework, 0), Due.BAD);
        }
        Due.due("10: all in TANKS", x.grams(1), 4 * 20001);
    }

    private static void mostStuff() {
        for (int last : new int[] {2, 3, 19999}) {
            SweetLine x = Due.told(Due.RAW);
            for (int k = 0; k < 4; k++) {
                x.fill(2, 0, 20000, 0, 0);
            }
            x.fill(2, 0, 20000 - last, 0, 0);
            int had = x.tank(2, 0);
            Due.due("10: to 100000", x.fill(2, 0, 100000 - had, 0, 1), Due.STATE);
            Due.due("10: as it was", x.tank(2, 3), 1);
            Due.due("10: to 99999", x.fill(2, 0, 99999 - had, 0, 1), 99999);
            Due.due("10: one more", x.fill(2, 0, 1, 0, 2), Due.STATE);
            Due.due("10: 20000 more", x.fill(2, 0, 20000, 0, 2), Due.STATE);
            dueTank(x, "10: full", 2, 99999, 0, 0, 3, 45, 0, 0);
            Due.due("10: another TANK has room", x.fill(3, 0, 20000, 0, 2), 20000);
            Due.due("12: all of it", x.drain(2), 99999);
            Due.due("10: behind it there is room", x.fill(2, 0, 20000, 0, 2), 20000);
        }
    }

    private static void lots() {
        SweetLine x = Due.told(Due.RAW);
        int bits = 0;
        for (int lot = 0; lot <= 9; lot++) {
            bits |= 1 << lot;
            x.fill(0, 0, 1, 0, lot);
            x.fill(0, 0, 1, 0, lot);
            Due.due("10: LOTS to " + lot, x.tank(0, 3), bits);
            x.fill(1, 0, 1, 0, lot);
            Due.due("10: LOT " + lot, x.tank(1, 3), 1 << lot);
            x.drain(1);
        }
        for (int lot : Due.outside(0, 9)) {
            Due.due("10: LOT " + lot, x.fill(0, 0, 1, 0, lot), Due.BAD);
        }
        Due.due("10: LOTS", x.tank(0, 3), 1023);
    }

    private static void anotherRecipe() {
        SweetLine x = Due.told("recipe 0 50;".repeat(6));
        for (int recipe = 0; recipe < 6; recipe++) {
            Due.due("10: an empty TANK takes each", x.fill(0, recipe, 3, 0, 0), 3);
            for (int other = 0; other < 6; other++) {
                Due.due("10: RECIPE " + other + " to " + recipe, x.fill(0, other, 1, 0, 1), other == recipe ? 4 : Due.STATE);
            }
            Due.due("13: RECIPE", x.tank(0, 2), recipe);
            x.drain(0);
        }
        for (int recipe : Due.outside(0, 5)) {
            Due.due("10: RECIPE " + recipe, x.fill(0, recipe, 1, 0, 0), Due.BAD);
        }
    }

    /** 45 degrees and no seeds only for one that is empty, however it came to be empty. */
    private static void emptyThen45() {
        SweetLine x = Due.told(Due.GOOD);
        x.fill(0, 0, 49, 0, 0);
        x.ready(0);
        x.fill(0, 0, 1, 0, 1);
        dueTank(x, "10: not empty", 0, 50, 0, 0, 3, 31, 20, 1);
        x.drain(0);
        x.fill(0, 0, 50, 0, 2);
        dueTank(x, "10: drained", 0, 50, 0, 0, 4, 45, 0, 0);
        x.ready(0);
        x.beat(1);
        dueEmpty(x, "16: all was poured", 0);
        x.fill(0, 0, 50, 0, 3);
        dueTank(x, "10: poured", 0, 50, 0, 0, 8, 45, 0, 0);
    }

    /** BIN 0 has 100 grams, of two raw bars; no TANK has any. */
    private static SweetLine withBin(int share) {
        SweetLine x = Due.cold("recipe 0 " + share + ";recipe 0 50;");
        x.fill(0, 0, 100, 0, 0);
        x.beat(8);
        x.melt(0);
        Due.due("22: bin(0)", x.melt(1), 100);
        return x;
    }

    private static void shares() {
        for (int share = 0; share <= 50; share++) {
            SweetLine x = withBin(share);
            Due.due("10: above a share of " + share, x.fill(1, 0, 100, share + 1, 3), Due.STATE);
            Due.due("10: all of it", x.fill(1, 0, 100, 100, 3), Due.STATE);
            Due.due("22: the BIN is as it was", x.bin(0), 100);
            Due.due("10: just a share of " + share, x.fill(1, 0, 100, share, 3), 100);
            dueTank(x, "10: share", 1, 100, share, 0, 8);
            Due.due("22: it came out of the BIN", x.bin(0), 100 - share);
            Due.due("10: the rework there counts", x.fill(1, 0, 1, 1, 3), Due.STATE);
            Due.due("10: none more", x.fill(1, 0, 1, 0, 3), 101);
        }
    }

    /** 100 times the rework against share times all, neither of them divided. */
    private static void sharesAreNotCut() {
        int[][] rows = {{33, 3, 1, 0}, {33, 4, 1, 1}, {34, 3, 1, 1}, {1, 99, 1, 0}, {1, 100, 1, 1}, {1, 199, 2, 0},
            {1, 200, 2, 1}, {50, 1, 1, 0}, {50, 2, 1, 1}, {50, 3, 2, 0}, {49, 2, 1, 0}, {7, 14, 1, 0}, {7, 15, 1, 1}};
        for (int[] r : rows) {
            SweetLine x = withBin(r[0]);
            String call = "10: share " + r[0] + ", " + r[2] + " of " + r[1];
            Due.due(call, x.fill(1, 0, r[1], r[2], 0), r[3] == 1 ? r[1] : Due.STATE);
            Due.due(call + ", the BIN", x.bin(0), r[3] == 1 ? 100 - r[2] : 100);
        }
        SweetLine x = withBin(50);
        x.fill(1, 0, 20000, 0, 0);
        Due.due("10: all that comes is rework", x.fill(1, 0, 100, 100, 0), 20100);
        dueTank(x, "10: rework", 1, 20100, 100);
    }

    private static void binHasLess() {
        SweetLine x = withBin(50);
        Due.due("10: 101 of 100", x.fill(1, 0, 20000, 101, 0), Due.STATE);
        Due.due("10: 20000 of 100", x.fill(1, 0, 20000, 20000, 0), Due.STATE);
        Due.due("10: another's BIN", x.fill(1, 1, 20000, 1, 0), Due.STATE);
        Due.due("10: 100 of 100", x.fill(1, 0, 20000, 100, 0), 20000);
        Due.due("22: the BIN has none", x.bin(0), 0);
        Due.due("10: 1 of none", x.fill(1, 0, 20000, 1, 0), Due.STATE);
        Due.due("10: none of none", x.fill(1, 0, 20000, 0, 0), 40000);
        Due.due("12: what is drained", x.drain(1), 40000);
        Due.due("22: does not come to the BIN", x.bin(0), 0);
    }

    private static void reworkIsOfTheGrams() {
        SweetLine x = withBin(50);
        int filled = x.grams(0);
        x.fill(1, 0, 80, 40, 0);
        Due.due("23: FILLED is the grams, rework among them", x.grams(0), filled + 80);
        Due.due("23: in TANKS", x.grams(1), 80);
        Due.due("23: in BARS, melted or not", x.grams(3), 100);
    }

    /** 12 with 6, of which 5 go with 2: 7 with 4 are above a share of 50 by 100. */
    private static void aboveTheShareByPouring() {
        SweetLine x = withBin(50);
        x.fill(1, 0, 12, 6, 0);
        x.gear(2, 1);
        x.gear(0, 10);
        x.gear(14, -5);
        x.beat(1);
        dueTank(x, "10: above the share", 1, 7, 4);
        Due.due("10: with new rework", x.fill(1, 0, 1, 1, 0), Due.STATE);
        Due.due("10: enough of new stuff", x.fill(1, 0, 1, 0, 0), 8);
        SweetLine y = withBin(20);
        y.fill(1, 0, 20, 4, 0);
        y.gear(2, 1);
        y.gear(0, 10);
        y.gear(13, -6);
        y.gear(14, 0);
        y.beat(1);
        dueTank(y, "10: 4 times 4 by 20 is cut to 0", 1, 16, 4);
        Due.due("10: above the share, though none is added", y.fill(1, 0, 3, 0, 0), Due.STATE);
        Due.due("10: enough of new stuff", y.fill(1, 0, 4, 0, 0), 20);
    }

    /** Of 20 with 10, one gram at a time: each takes rework times 1 by what there is, cut. */
    private static void reworkIsCut() {
        SweetLine x = withBin(50);
        x.fill(1, 0, 20, 10, 0);
        x.gear(2, 1);
        x.gear(0, 10);
        x.gear(13, -20);
        int stuff = 20;
        int rework = 10;
        for (int k = 0; k < 20; k++) {
            Due.due("16: beat", x.beat(1) >= 0 ? 1 : 0, 1);
            rework -= rework / stuff;
            stuff--;
            Due.due("10: stuff behind " + (k + 1), x.tank(1, 0), stuff);
            Due.due("10: rework behind " + (k + 1), x.tank(1, 1), rework);
        }
        dueEmpty(x, "10: nothing is left", 1);
    }

    private static void nothingIsLeft() {
        SweetLine x = withBin(50);
        x.gear(2, 1);
        x.gear(14, 0);
        x.fill(1, 0, 51, 25, 4);
        x.beat(1);
        dueTank(x, "10: 1 gram is left", 1, 1, 1, 0, 16, 45, 0, 0);
        x.fill(1, 0, 49, 0, 5);
        x.beat(1);
        dueEmpty(x, "10: none is left", 1);
        Due.due("16: an empty one does not pour", x.beat(1) + x.mould(0, 0), Due.NONE);
    }

    private static void badAheadOfState() {
        SweetLine x = withBin(0);
        x.fill(1, 0, 5, 0, 0);
        Due.due("10: TANK ahead of STATE", x.fill(4, 1, 5, 5, 0), Due.BAD);
        Due.due("10: RECIPE ahead of STATE", x.fill(1, 2, 5, 5, 0), Due.BAD);
        Due.due("10: grams ahead of STATE", x.fill(1, 1, 20001, 5, 0), Due.BAD);
        Due.due("10: rework ahead of STATE", x.fill(1, 1, 5, 6, 0), Due.BAD);
        Due.due("10: LOT ahead of STATE", x.fill(1, 1, 5, 5, 10), Due.BAD);
        Due.due("10: STATE", x.fill(1, 1, 5, 5, 9), Due.STATE);
    }

    private static void ready() {
        SweetLine x = Due.told("recipe 0 0 seed 9;recipe 0 0 warm 33 12 seed 10;recipe 0 0 seed 10;");
        int[] states = {0, 1, 2};
        for (int tank = 0; tank < 3; tank++) {
            Due.due("11: STATE, it is empty", x.ready(tank), Due.STATE);
            x.fill(tank, tank, 1, 0, 0);
            Due.due("11: ready(" + tank + ")", x.ready(tank), states[tank]);
            Due.due("13: STATE of TANK " + tank, x.tank(tank, 6), states[tank]);
        }
        Due.due("11: nine and nine seeds", x.ready(0), 2);
        for (int tank : Due.outside(0, 3)) {
            Due.due("11: ready(" + tank + ")", x.ready(tank), Due.BAD);
        }
        for (int k = 0; k < 200; k++) {
            x.ready(0);
        }
        dueTank(x, "11: 999 seeds at most", 0, 1, 0, 0, 1, 45, 999, 2);
    }

    private static void drain() {
        SweetLine x = Due.told(Due.RAW);
        for (int tank = 0; tank < 4; tank++) {
            Due.due("12: nothing", x.drain(tank), 0);
            x.fill(tank, 0, 1 + tank, 0, tank);
        }
        for (int tank : Due.outside(0, 3)) {
            Due.due("12: drain(" + tank + ")", x.drain(tank), Due.BAD);
        }
        Due.due("23: grams(4)", x.grams(4), 0);
        for (int tank = 0; tank < 4; tank++) {
            Due.due("12: all of it", x.drain(tank), 1 + tank);
            dueEmpty(x, "12: it is empty then", tank);
            Due.due("12: nothing any more", x.drain(tank), 0);
        }
        Due.due("23: grams(4)", x.grams(4), 10);
    }
}
