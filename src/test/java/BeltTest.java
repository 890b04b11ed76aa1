/** Promises 14 to 18: belt, gear, beat, mould, correct. */
public final class BeltTest {
    public static void main(String[] args) {
        belt();
        gear();
        beatRefuses();
        oneRound();
        stationsOf(6);
        stationsOf(15);
        pours();
        drift();
        fillsOnce();
        cools();
        missed();
        good();
        mould();
        correct();
        Due.end();
    }

    private static void dueMould(SweetLine x, int station, int... want) {
        for (int what = 0; what < want.length; what++) {
            Due.due("17: mould(" + station + ", " + what + ")", x.mould(station, what), want[what]);
        }
    }

    private static void dueEmpty(SweetLine x, int station) {
        dueMould(x, station, Due.NONE, Due.NONE, Due.NONE, Due.NONE, Due.NONE, Due.NONE);
    }

    private static void belt() {
        SweetLine x = Due.cold(Due.RAW);
        Due.due("14: belt(5)", x.belt(5), Due.BAD);
        Due.due("14: belt(16)", x.belt(16), Due.BAD);
        Due.due("14: belt(6)", x.belt(6), 8);
        Due.due("14: belt(15)", x.belt(15), 6);
        Due.due("14: mould(14, 0)", x.mould(14, 0), Due.NONE);
        Due.due("14: mould(15, 0)", x.mould(15, 0), Due.BAD);
        x.fill(0, 0, 50, 0, 0);
        x.beat(15);
        Due.due("14: a bar came", x.count(2), 1);
        Due.due("14: belt(9)", x.belt(9), 15);
        x.fill(0, 0, 51, 0, 0);
        x.beat(1);
        Due.due("14: belt(9) with a mould that is not empty", x.belt(9), Due.STATE);
        Due.due("14: belt(16), BAD ahead of STATE", x.belt(16), Due.BAD);
        dueMould(x, 0, 50, 0, 0, 45, 0, 0);
        Due.due("14: mould(8, 0)", x.mould(8, 0), Due.NONE);
        Due.due("14: mould(9, 0)", x.mould(9, 0), Due.BAD);
        Due.due("14: beats go on", x.count(3), 16);
    }

    private static void gear() {
        int[] least = {10, 0, 0, 0, 0, 0, 0, 0, 0, 0, 0, 0, 0, -20, -5};
        int[] most = {200, 100, 3, 9, 9, 9, 9, 9, 9, 9, 9, 9, 9, 20, 5};
        int[] first = {50, 0, 0, 3, 3, 3, 3, 3, 3, 3, 3, 3, 3, 0, 0};
        SweetLine x = new SweetLine();
        for (int what = 0; what <= 14; what++) {
            Due.due("15: gear(" + what + ", least - 1)", x.gear(what, least[what] - 1), Due.BAD);
            Due.due("15: gear(" + what + ", most + 1)", x.gear(what, most[what] + 1), Due.BAD);
            Due.due("15: gear(" + what + ", least)", x.gear(what, least[what]), first[what]);
            Due.due("15: gear(" + what + ", most)", x.gear(what, most[what]), least[what]);
            Due.due("15: gear(" + what + ", first)", x.gear(what, first[what]), most[what]);
        }
        for (int what : new int[] {-1, 15, Integer.MIN_VALUE, Integer.MAX_VALUE}) {
            Due.due("15: gear(" + what + ", 10)", x.gear(what, 10), Due.BAD);
        }
    }

    private static void beatRefuses() {
        SweetLine x = new SweetLine();
        for (int n : new int[] {0, -1, 101, Integer.MIN_VALUE, Integer.MAX_VALUE}) {
            Due.due("16: beat(" + n + ")", x.beat(n), Due.BAD);
        }
        Due.due("16: count(3)", x.count(3), 0);
        Due.due("16: beat(100)", x.beat(100), 0);
        Due.due("16: beat(1)", x.beat(1), 0);
        Due.due("16: count(3)", x.count(3), 101);
        Due.due("16: an empty mould is not missed", x.count(4), 0);
    }

    private static void oneRound() {
        SweetLine x = Due.cold(Due.GOOD);
        x.gear(1, 7);
        x.fill(0, 0, 50, 0, 3);
        x.ready(0);
        Due.due("16: beat(1)", x.beat(1), 0);
        dueMould(x, 0, 50, 0, 0, 31, 0, 1);
        x.beat(1);
        dueEmpty(x, 0);
        dueMould(x, 1, 50, 0, 0, 31, 1, 1);
        x.beat(1);
        dueMould(x, 2, 50, 7, 0, 31, 1, 1);
        x.beat(1);
        dueMould(x, 3, 50, 7, 0, 22, 1, 1);
        x.beat(1);
        dueMould(x, 4, 50, 7, 0, 13, 1, 1);
        x.beat(1);
        dueMould(x, 5, 50, 7, 0, 5, 1, 1);
        Due.due("16: grams(2)", x.grams(2), 50);
        Due.due("16: a bar comes", x.beat(1), 1);
        dueEmpty(x, 6);
        Due.due("16: count(5)", x.count(5), 0);
        int[] bar = {50, 7, 0, 8, 1, 6, 0};
        for (int what = 0; what < bar.length; what++) {
            Due.due("19: bar(0, " + what + ")", x.bar(0, what), bar[what]);
        }
        x.beat(9);
        Due.due("16: no more bars", x.count(2), 1);
        Due.due("16: none is missed", x.count(4), 0);
        usedAgain(x);
    }

    /** The mould that was turned out comes to STATION 0 with the next beat of 17. */
    private static void usedAgain(SweetLine x) {
        x.gear(1, 8);
        x.fill(0, 0, 50, 0, 4);
        Due.due("16: a second one", x.beat(1), 0);
        dueMould(x, 0, 50, 0, 0, 45, 0, 0);
        x.beat(1);
        dueMould(x, 1, 50, 0, 0, 45, 1, 0);
        x.beat(1);
        dueMould(x, 2, 50, 8, 0, 45, 1, 0);
        Due.due("16: bars of these beats alone", x.beat(8), 1);
        Due.due("16: LOTS of these grams alone", x.bar(1, 3), 16);
    }

    /** Poured with 45 degrees, one degree taken in each cell: the cells are 3 to n - 3. */
    private static void stationsOf(int n) {
        SweetLine x = Due.told(Due.RAW);
        x.belt(n);
        for (int station = 3; station <= 12; station++) {
            x.gear(station, 1);
        }
        x.fill(0, 0, 50, 0, 0);
        x.gear(1, 4);
        for (int station = 0; station < n; station++) {
            x.beat(1);
            int cells = Math.max(0, Math.min(station, n - 3) - 2);
            dueMould(x, station, 50, station >= 2 ? 4 : 0, 0, 45 - cells, station >= 1 ? 1 : 0, 0);
            Due.due("16: missed at " + station + " of " + n, x.count(4), station >= n - 2 ? 1 : 0);
        }
        x.beat(1);
        dueMould(x, 0, 50, 4, 0, 45 - (n - 5), 1, 0);
    }

    private static void pours() {
        SweetLine x = Due.cold(Due.RAW + Due.GOOD);
        x.gear(0, 10);
        x.gear(13, -20);
        x.fill(0, 0, 2, 0, 0);
        x.beat(1);
        Due.due("16: 1 gram at least", x.mould(0, 0), 1);
        x.gear(13, -8);
        x.beat(1);
        Due.due("16: not so many in the tank", x.mould(0, 0), Due.NONE);
        Due.due("16: the tank has it all", x.tank(0, 0), 1);
        x.gear(13, -9);
        x.beat(1);
        Due.due("16: just so many", x.mould(0, 0), 1);
        Due.due("16: the tank is empty", x.tank(0, 2), Due.NONE);
        x.gear(0, 200);
        x.gear(13, 20);
        x.gear(14, 5);
        x.gear(2, 3);
        x.fill(3, 1, 224, 0, 9);
        x.beat(1);
        Due.due("16: 225 of 224", x.mould(0, 0), Due.NONE);
        x.fill(3, 1, 1, 0, 8);
        x.beat(1);
        dueMould(x, 0, 225, 0, 1, 45, 0, 0);
        Due.due("16: TANK 3 poured", x.tank(3, 0), 0);
        x.beat(6);
        Due.due("16: LOTS of the tank", x.bar(2, 3), 768);
        Due.due("16: of RECIPE 1", x.bar(2, 2), 1);
    }

    private static void drift() {
        SweetLine x = Due.cold(Due.RAW);
        x.gear(14, 3);
        x.fill(0, 0, 20000, 0, 0);
        int[] want = {53, 53, 53, 53, 54, 54, 54, 54, 55, 55, 55, 55, 55, 55};
        for (int k = 0; k < want.length; k++) {
            x.beat(1);
            Due.due("16: poured " + k, x.mould(0, 0), want[k]);
        }
        Due.due("16: DRIFT is 5 at most", x.gear(14, -5), 5);
        x.beat(2);
        Due.due("16: the 16th poured", x.mould(0, 0), 45);
        Due.due("16: DRIFT is one more with it", x.gear(14, 0), -4);
        SweetLine y = Due.cold(Due.RAW);
        y.fill(0, 0, 150, 0, 0);
        y.beat(10);
        Due.due("16: only what is poured counts", y.gear(14, 0), 0);
        y.fill(0, 0, 50, 0, 0);
        y.beat(1);
        Due.due("16: the 4th that is poured", y.gear(14, 0), 1);
    }

    private static void fillsOnce() {
        SweetLine x = Due.told(Due.RAW);
        x.fill(0, 0, 50, 0, 0);
        x.beat(3);
        dueMould(x, 2, 50, 0, 0, 45, 1, 0);
        x.gear(1, 9);
        x.beat(8);
        dueMould(x, 2, 50, 0, 0, 36, 1, 0);
        SweetLine y = Due.told(Due.RAW);
        y.gear(1, 9);
        y.fill(0, 0, 50, 0, 0);
        y.beat(3);
        y.gear(1, 100);
        y.beat(8);
        dueMould(y, 2, 50, 9, 0, 36, 1, 0);
    }

    private static void cools() {
        SweetLine x = Due.told("recipe 0 0 warm 0 60;");
        x.gear(3, 0);
        x.gear(4, 2);
        x.gear(5, 9);
        x.fill(0, 0, 50, 0, 0);
        x.beat(1);
        x.beat(3);
        Due.due("16: COLD 0", x.mould(3, 3), 45);
        x.beat(1);
        Due.due("16: COLD 2", x.mould(4, 3), 43);
        x.beat(1);
        Due.due("16: COLD 9", x.mould(5, 3), 34);
        SweetLine y = Due.told("recipe 0 0 warm 0 60;");
        y.fill(0, 0, 50, 0, 0);
        y.ready(0);
        y.beat(1);
        Due.due("16: poured with the tank's warmth", y.mould(0, 3), 0);
        y.beat(3);
        Due.due("16: 5 at least behind a cell", y.mould(3, 3), 5);
    }

    /** 45 degrees less 9 in each round: 18 behind the third. */
    private static void missed() {
        SweetLine x = Due.told(Due.RAW);
        x.fill(0, 0, 50, 0, 0);
        Due.due("16: first round", x.beat(7), 0);
        Due.due("16: count(4)", x.count(4), 1);
        Due.due("16: second round", x.beat(8), 0);
        Due.due("16: count(4)", x.count(4), 2);
        Due.due("16: count(5)", x.count(5), 1);
        Due.due("16: third round, 18 degrees", x.beat(8), 1);
        Due.due("16: count(4)", x.count(4), 2);
        Due.due("16: its BEAT", x.bar(0, 5), 22);
        SweetLine z = Due.told(Due.RAW);
        z.gear(3, 9);
        z.gear(4, 9);
        z.gear(5, 8);
        z.fill(0, 0, 50, 0, 0);
        z.beat(7);
        Due.due("16: 19 degrees is too warm", z.mould(6, 3), 19);
        SweetLine y = Due.told(Due.RAW);
        y.gear(3, 2);
        y.fill(0, 0, 50, 0, 0);
        y.fill(1, 0, 500, 0, 0);
        y.beat(1);
        y.gear(2, 1);
        y.beat(8);
        Due.due("16: nothing is poured onto what goes round", y.mould(0, 3), 37);
        y.beat(14);
        Due.due("16: 21 degrees is too warm", y.count(2), 0);
        y.beat(8);
        Due.due("16: 13 degrees is not", y.bar(0, 5), 30);
    }

    private static void good() {
        SweetLine x = Due.cold("recipe 0 0 seed 10 warm 33 20 seed 10;recipe 0 0 seed 9;recipe 0 0 warm 33 12 seed 50 seed 11;");
        int[] want = {1, 0, 0};
        for (int tank = 0; tank < 3; tank++) {
            x.fill(tank, tank, 50, 0, 0);
            x.ready(tank);
            x.gear(2, tank);
            x.beat(1);
            Due.due("16: good of RECIPE " + tank, x.mould(0, 5), want[tank]);
            Due.due("16: RECIPE " + tank, x.mould(0, 2), tank);
        }
    }

    private static void mould() {
        SweetLine x = new SweetLine();
        int[][] bad = {{-1, 0}, {8, 0}, {0, -1}, {0, 6}, {Integer.MIN_VALUE, 0}, {Integer.MAX_VALUE, 0}};
        for (int[] b : bad) {
            Due.due("17: mould(" + b[0] + ", " + b[1] + ")", x.mould(b[0], b[1]), Due.BAD);
        }
        dueEmpty(x, 7);
    }

    private static void correct() {
        SweetLine x = Due.cold(Due.RAW);
        Due.due("18: correct() before a bar", x.correct(), Due.STATE);
        x.gear(14, 2);
        x.fill(0, 0, 20000, 0, 0);
        x.beat(7);
        Due.due("18: one bar of 52", x.correct(), -1);
        x.gear(0, 52);
        Due.due("18: just TARGET", x.correct(), -1);
        x.gear(0, 53);
        Due.due("18: below TARGET", x.correct(), 0);
        SweetLine y = Due.cold(Due.RAW);
        y.fill(0, 0, 20000, 0, 0);
        y.beat(6 + 5);
        y.gear(0, 50);
        Due.due("18: mean of 50, 50, 50, 51 is cut", y.correct(), 0);
        y.beat(3);
        Due.due("18: mean of 51, 51, 51, 51", y.correct(), -1);
        y.beat(60);
        Due.due("18: bars that are not kept count, too", y.count(2) > 44 ? y.correct() : 0, -2);
        y.gear(13, -20);
        Due.due("18: -20 at least", y.correct(), -20);
        y.gear(13, 20);
        Due.due("18: one less than 20", y.correct(), 19);
        y.gear(0, 200);
        Due.due("18: one more", y.correct(), 20);
        Due.due("18: 20 at most", y.correct(), 20);
        Due.due("18: OFFSET is that", y.gear(13, 0), 20);
        SweetLine z = Due.cold(Due.RAW);
        z.fill(0, 0, 20000, 0, 0);
        z.beat(6 + 40);
        z.gear(0, 150);
        z.beat(6);
        z.beat(4);
        z.gear(0, 150);
        Due.due("18: the last 4 are above 150, the kept ones below", z.correct(), -1);
    }
}
