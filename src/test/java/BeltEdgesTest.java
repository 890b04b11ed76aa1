/** Promises 14 to 18, the edges: each sentence on THE BELT, A BEAT and CORRECTED that names one. */
public final class BeltEdgesTest {
    private static final int[] LEAST = {10, 0, 0, 0, 0, 0, 0, 0, 0, 0, 0, 0, 0, -20, -5};
    private static final int[] MOST = {200, 100, 3, 9, 9, 9, 9, 9, 9, 9, 9, 9, 9, 20, 5};

    public static void main(String[] args) {
        beltSizes();
        someMouldIsNotEmpty();
        gears();
        for (int n = 6; n <= 15; n++) {
            roundOf(n);
            allMouldsOf(n);
        }
        beatsTogether();
        gramsPoured();
        justSoMany();
        everyFourth();
        goodByState();
        fillings();
        fiveAtLeast();
        eighteenOrLess();
        missedGoesRound();
        emptyMoulds();
        correctMean();
        correctEnds();
        Due.end();
    }

    private static void beltSizes() {
        SweetLine x = new SweetLine();
        int had = 8;
        for (int n = 6; n <= 15; n++) {
            Due.due("14: belt(" + n + ")", x.belt(n), had);
            had = n;
            for (int station = 0; station < 16; station++) {
                Due.due("17: mould(" + station + ", 0) of " + n, x.mould(station, 0), station < n ? Due.NONE : Due.BAD);
            }
        }
        for (int n : Due.outside(6, 15)) {
            Due.due("14: belt(" + n + ")", x.belt(n), Due.BAD);
        }
        Due.due("14: as it was", x.belt(15), 15);
    }

    /** STATE wherever it stands; none of the belt is left when it was turned out. */
    private static void someMouldIsNotEmpty() {
        SweetLine x = Due.cold(Due.RAW);
        x.fill(0, 0, 50, 0, 0);
        for (int station = 0; station <= 5; station++) {
            x.beat(1);
            Due.due("14: one at STATION " + station, x.belt(9), Due.STATE);
            Due.due("14: BAD ahead of STATE", x.belt(5), Due.BAD);
            Due.due("14: it stands", x.mould(station, 0), 50);
        }
        Due.due("16: turned out", x.beat(1), 1);
        Due.due("14: all are empty", x.belt(9), 8);
        SweetLine y = Due.told(Due.RAW);
        y.belt(15);
        for (int station = 3; station <= 12; station++) {
            y.gear(station, 0);
        }
        y.fill(0, 0, 50, 0, 0);
        y.beat(15);
        Due.due("14: one at the last STATION of 15", y.mould(14, 0), 50);
        Due.due("14: STATE", y.belt(15), Due.STATE);
        Due.due("30: count(5)", y.count(5), 1);
        Due.due("23: grams(2)", y.grams(2), 50);
    }

    private static void gears() {
        SweetLine x = new SweetLine();
        for (int what = 0; what < LEAST.length; what++) {
            x.gear(what, LEAST[what]);
            for (int v : Due.outside(LEAST[what], MOST[what])) {
                Due.due("15: gear(" + what + ", " + v + ")", x.gear(what, v), Due.BAD);
            }
            Due.due("15: the most of " + what, x.gear(what, MOST[what]), LEAST[what]);
            Due.due("15: what it was", x.gear(what, MOST[what]), MOST[what]);
        }
        for (int what : Due.outside(0, 14)) {
            Due.due("15: gear(" + what + ", 10)", x.gear(what, 10), Due.BAD);
        }
        for (int what = 0; what < LEAST.length; what++) {
            Due.due("15: each alone, " + what, x.gear(what, LEAST[what]), MOST[what]);
        }
    }

    /** CELLS are 3 to n - 3, each with its own COLD; those of n - 2 and n - 1 take nothing. */
    private static void roundOf(int n) {
        SweetLine x = Due.told("recipe 0 0 warm 60 15;");
        x.belt(n);
        for (int station = 3; station <= 12; station++) {
            x.gear(station, station % 4 + 1);
        }
        x.gear(1, 4);
        x.fill(0, 0, 50, 0, 0);
        x.ready(0);
        int warmth = 60;
        for (int beat = 0; beat < 2 * n; beat++) {
            int station = beat % n;
            x.beat(1);
            warmth -= station >= 3 && station <= n - 3 ? station % 4 + 1 : 0;
            String where = "16: STATION " + station + " of " + n + ", ";
            boolean out = warmth <= 18 && station >= n - 2;
            Due.due(where + "chocolate", x.mould(station, 0), out ? Due.NONE : 50);
            Due.due(where + "filling", x.mould(station, 1), out ? Due.NONE : beat >= 2 ? 4 : 0);
            Due.due(where + "warmth", x.mould(station, 3), out ? Due.NONE : warmth);
            Due.due(where + "shaken", x.mould(station, 4), out ? Due.NONE : beat >= 1 ? 1 : 0);
            Due.due(where + "count(2)", x.count(2), out ? 1 : 0);
            Due.due(where + "count(5)", x.count(5), out ? 0 : 1);
            if (out) {
                Due.due(where + "its BEAT", x.bar(0, 5), 2 * n - 2);
                return;
            }
            Due.due(where + "MISSED", x.count(4), beat < n - 2 ? 0 : beat < 2 * n - 2 ? 1 : 2);
        }
    }

    /** Each beat pours into the mould that came to STATION 0, until all go round. */
    private static void allMouldsOf(int n) {
        SweetLine x = Due.told("recipe 0 0;");
        x.belt(n);
        for (int station = 3; station <= 12; station++) {
            x.gear(station, 0);
        }
        x.gear(13, 1);
        x.fill(0, 0, 20000, 0, 0);
        int grams = 0;
        for (int beat = 0; beat < n + 3; beat++) {
            x.beat(1);
            grams += beat < n ? 51 + beat / 4 : 0;
            Due.due("16: count(5) of " + n, x.count(5), Math.min(n, beat + 1));
            Due.due("23: grams(2) of " + n, x.grams(2), grams);
            Due.due("16: STATION 0 of " + n, x.mould(0, 0), 51 + beat % n / 4);
        }
        Due.due("16: each that came to " + (n - 2) + " is MISSED", x.count(4), 5);
        Due.due("17: the last STATION", x.mould(n - 1, 0), 51 + 3 / 4);
        Due.due("17: behind it", x.mould(n, 0), Due.BAD);
    }

    /** beat(n) is n times beat(1). */
    private static void beatsTogether() {
        for (int n : new int[] {1, 2, 99, 100}) {
            SweetLine x = Due.cold(Due.GOOD);
            SweetLine y = Due.cold(Due.GOOD);
            x.fill(0, 0, 4000, 0, 0);
            y.fill(0, 0, 4000, 0, 0);
            int came = 0;
            for (int k = 0; k < n; k++) {
                came += y.beat(1);
            }
            Due.due("16: beat(" + n + ")", x.beat(n), came);
            Due.due("30: BEATS", x.count(3), n);
            for (int what = 0; what <= 5; what++) {
                Due.due("23: grams(" + what + ")", x.grams(what), y.grams(what));
                Due.due("30: count(" + what + ")", x.count(what), y.count(what));
            }
        }
        SweetLine z = new SweetLine();
        for (int n : Due.outside(1, 100)) {
            Due.due("16: beat(" + n + ")", z.beat(n), Due.BAD);
        }
        Due.due("30: no BEAT", z.count(3), 0);
        for (int k = 1; k <= 300; k++) {
            z.beat(100);
        }
        Due.due("30: BEATS", z.count(3), 30000);
    }

    /** TARGET and DRIFT and OFFSET, 1 at least. */
    private static void gramsPoured() {
        int[][] rows = {{10, -5, -20, 1}, {10, -5, -6, 1}, {10, -5, -5, 1}, {10, -5, -4, 1}, {10, -5, -3, 2}, {10, 5, -15, 1},
            {10, 5, -14, 1}, {10, 5, -13, 2}, {10, 0, 0, 10}, {200, 5, 20, 225}, {200, 0, 0, 200}, {200, -5, -20, 175}};
        for (int[] r : rows) {
            SweetLine x = Due.told(Due.RAW);
            x.gear(0, r[0]);
            x.gear(14, r[1]);
            x.gear(13, r[2]);
            x.fill(0, 0, 1000, 0, 0);
            x.beat(1);
            Due.due("16: TARGET " + r[0] + ", DRIFT " + r[1] + ", OFFSET " + r[2], x.mould(0, 0), r[3]);
            Due.due("16: out of the TANK", x.tank(0, 0), 1000 - r[3]);
        }
    }

    private static void justSoMany() {
        for (int tank = 0; tank < 4; tank++) {
            SweetLine x = Due.told(Due.RAW);
            x.gear(2, tank);
            x.fill((tank + 1) % 4, 0, 500, 0, 0);
            x.fill(tank, 0, 49, 0, 3);
            x.beat(1);
            Due.due("16: 50 of 49", x.mould(0, 0), Due.NONE);
            Due.due("16: it has them still", x.tank(tank, 0), 49);
            x.fill(tank, 0, 1, 0, 4);
            x.beat(1);
            Due.due("16: 50 of 50", x.mould(0, 0), 50);
            Due.due("16: it is empty", x.tank(tank, 2), Due.NONE);
            x.beat(1);
            Due.due("16: 50 of none", x.mould(0, 0), Due.NONE);
            Due.due("16: another TANK has its grams", x.tank((tank + 1) % 4, 0), 500);
        }
    }

    private static void everyFourth() {
        for (int drift = -5; drift <= 5; drift++) {
            SweetLine x = Due.told(Due.RAW);
            x.belt(15);
            x.gear(14, drift);
            x.fill(0, 0, 20000, 0, 0);
            for (int poured = 0; poured < 15; poured++) {
                x.beat(1);
                int now = Math.min(5, drift + poured / 4);
                Due.due("16: poured as number " + poured + " from DRIFT " + drift, x.mould(0, 0), 50 + now);
            }
            Due.due("15: DRIFT", x.gear(14, 0), Math.min(5, drift + 3));
        }
        SweetLine y = Due.told(Due.RAW);
        y.fill(0, 0, 150, 0, 0);
        y.beat(4);
        Due.due("16: three were poured", y.gear(14, -1), 0);
        y.fill(1, 0, 50, 0, 0);
        y.gear(2, 1);
        y.beat(1);
        Due.due("16: 49 of another TANK are the 4th", y.mould(0, 0), 49);
        Due.due("16: DRIFT is one more", y.gear(14, 0), 0);
    }

    private static void goodByState() {
        int[][] rows = {{28, 10, 1}, {27, 10, 0}, {33, 60, 1}, {34, 60, 0}, {33, 61, 0}, {30, 9, 0}, {30, 30, 1}, {30, 61, 0}};
        for (int[] r : rows) {
            SweetLine x = Due.told("recipe 0 0 warm " + r[0] + " 20 seed " + Math.min(50, r[1])
                + (r[1] > 50 ? " seed " + (r[1] - 50) : "") + ";");
            x.fill(0, 0, 100, 0, 0);
            x.beat(1);
            Due.due("16: raw is not good", x.mould(0, 5), 0);
            x.ready(0);
            x.beat(1);
            Due.due("13: warmth", x.tank(0, 2) == Due.NONE ? x.mould(0, 3) : -1, r[0]);
            Due.due("16: good with " + r[0] + " degrees, " + r[1] + " seeds", x.mould(0, 5), r[2]);
            Due.due("16: what was poured before is as it was", x.mould(1, 5), 0);
        }
    }

    private static void fillings() {
        for (int filling : new int[] {0, 1, 99, 100}) {
            SweetLine x = Due.cold(Due.RAW);
            x.gear(1, filling);
            x.fill(0, 0, 50, 0, 0);
            x.beat(2);
            Due.due("16: without filling at first", x.mould(1, 1), 0);
            x.beat(1);
            Due.due("16: " + filling + " grams", x.mould(2, 1), filling);
            Due.due("23: filling is no chocolate", x.grams(2), 50);
            x.beat(4);
            Due.due("19: of the BAR", x.bar(0, 1), filling);
            Due.due("23: filling is no chocolate", x.grams(3), 50);
        }
    }

    /** 45 degrees less 9, 9, 9 are 18; poured with fewer, 5 is the least behind a CELL. */
    private static void fiveAtLeast() {
        int[][] rows = {{15, 9, 6}, {14, 9, 5}, {13, 9, 5}, {5, 9, 5}, {6, 1, 5}, {6, 0, 6}, {5, 0, 5}, {4, 0, 5}, {0, 9, 5}};
        for (int[] r : rows) {
            SweetLine x = Due.told("recipe 0 0 warm " + r[0] + " 60;");
            x.gear(3, r[1]);
            x.fill(0, 0, 50, 0, 0);
            x.ready(0);
            x.beat(3);
            Due.due("16: no CELL yet", x.mould(2, 3), r[0]);
            x.beat(1);
            Due.due("16: " + r[0] + " less " + r[1], x.mould(3, 3), r[2]);
        }
    }

    private static void eighteenOrLess() {
        for (int warmth = 15; warmth <= 21; warmth++) {
            SweetLine x = Due.told("recipe 0 0 warm " + warmth + " 60;");
            for (int station = 3; station <= 5; station++) {
                x.gear(station, 0);
            }
            x.fill(0, 0, 50, 0, 0);
            x.ready(0);
            Due.due("16: ahead of STATION 6", x.beat(6), 0);
            Due.due("16: " + warmth + " degrees", x.beat(1), warmth <= 18 ? 1 : 0);
            Due.due("16: MISSED", x.count(4), warmth <= 18 ? 0 : 1);
            Due.due("16: the MOULD", x.mould(6, 0), warmth <= 18 ? Due.NONE : 50);
        }
    }

    /** One that is MISSED keeps what it has: its filling, RECIPE, LOTS, whether good. */
    private static void missedGoesRound() {
        SweetLine x = Due.told(Due.GOOD + Due.RAW);
        for (int station = 3; station <= 5; station++) {
            x.gear(station, 2);
        }
        x.gear(1, 7);
        x.fill(0, 0, 50, 0, 9);
        x.ready(0);
        x.beat(7);
        Due.due("16: MISSED with 25", x.mould(6, 3), 25);
        x.gear(1, 100);
        x.fill(1, 1, 10000, 0, 1);
        x.gear(2, 1);
        x.beat(1);
        Due.due("16: n - 1 does nothing", x.mould(7, 3), 25);
        x.beat(1);
        int[] want = {50, 7, 0, 25, 1, 1};
        for (int what = 0; what < want.length; what++) {
            Due.due("16: from n - 1 to 0, not poured upon", x.mould(0, what), want[what]);
        }
        x.beat(2);
        Due.due("16: not filled again", x.mould(2, 1), 7);
        x.beat(3);
        Due.due("16: 19 degrees", x.mould(5, 3), 19);
        x.beat(1);
        Due.due("16: MISSED again", x.mould(6, 3), 19);
        Due.due("30: count(4), with one of TANK 1 between", x.count(4), 3);
        x.beat(8);
        Due.due("16: 13 degrees", x.count(2), 1);
        int[] bar = {50, 7, 0, 512, 1, 22, 0};
        for (int what = 0; what < bar.length; what++) {
            Due.due("19: bar(0, " + what + ")", x.bar(0, what), bar[what]);
        }
    }

    private static void emptyMoulds() {
        SweetLine x = new SweetLine();
        x.gear(1, 50);
        x.beat(100);
        for (int station = 0; station < 8; station++) {
            for (int what = 0; what <= 5; what++) {
                Due.due("17: of an empty one NONE, all", x.mould(station, what), Due.NONE);
            }
        }
        Due.due("16: none is MISSED", x.count(4), 0);
        Due.due("16: none comes", x.count(2), 0);
        for (int what : Due.outside(0, 5)) {
            Due.due("17: mould(0, " + what + ")", x.mould(0, what), Due.BAD);
        }
        for (int station : Due.outside(0, 7)) {
            Due.due("17: mould(" + station + ", 0)", x.mould(station, 0), Due.BAD);
        }
    }

    /** The mean, cut, of the last 4 BARS, or as many as came. */
    private static void correctMean() {
        int[] grams = {60, 50, 52, 53, 50, 100, 10, 10, 11};
        SweetLine x = Due.cold(Due.RAW);
        x.fill(0, 0, 20000, 0, 0);
        for (int k = 0; k < grams.length + 6; k++) {
            x.gear(0, k < grams.length ? grams[k] : 10);
            x.gear(14, 0);
            x.beat(1);
            if (k >= 6) {
                dueMean(x, grams, k - 5);
            } else {
                Due.due("18: STATE, no BAR came", x.correct(), Due.STATE);
            }
        }
    }

    private static void dueMean(SweetLine x, int[] grams, int came) {
        int sum = 0;
        for (int k = Math.max(0, came - 4); k < came; k++) {
            sum += grams[k];
        }
        int mean = sum / Math.min(4, came);
        for (int target = Math.max(10, mean - 1); target <= mean + 1; target++) {
            x.gear(0, target);
            x.gear(13, 3);
            String call = "18: " + came + " came, their mean " + mean + ", TARGET " + target;
            Due.due(call, x.correct(), 3 + Integer.compare(target, mean));
        }
        x.gear(13, 0);
    }

    private static void correctEnds() {
        SweetLine x = Due.withBars(Due.RAW, 0, 0, 1);
        x.gear(0, 51);
        for (int offset = -20; offset <= 20; offset++) {
            x.gear(13, offset);
            Due.due("18: one more than " + offset, x.correct(), Math.min(20, offset + 1));
        }
        x.gear(0, 49);
        for (int offset = -20; offset <= 20; offset++) {
            x.gear(13, offset);
            Due.due("18: one less than " + offset, x.correct(), Math.max(-20, offset - 1));
            Due.due("18: OFFSET then", x.gear(13, offset), Math.max(-20, offset - 1));
        }
        x.gear(0, 50);
        for (int offset = -20; offset <= 20; offset += 20) {
            x.gear(13, offset);
            Due.due("18: as it is at " + offset, x.correct(), offset);
        }
    }
}
