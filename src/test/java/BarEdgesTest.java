/** Promises 19 to 25, the edges: each sentence on BARS, BINS, sums, BLOOM and ORDERS that names one. */
public final class BarEdgesTest {
    private static final int LOW = Integer.MIN_VALUE, HIGH = Integer.MAX_VALUE;

    public static void main(String[] args) {
        firstForty();
        itsBeat();
        recallEachLot();
        recallCounts();
        meltOnce();
        meltBehindRecall();
        bins();
        closed();
        givenAway();
        bloomDegrees();
        bloomHolds();
        bloomPairs();
        bloomItems();
        orderItems();
        orderNumbers();
        cleaned();
        late();
        firstAsARow();
        sevenOrders();
        ordersPlaces();
        Due.end();
    }

    private static void firstForty() {
        for (int came : new int[] {0, 1, 39, 40, 41, 94}) {
            SweetLine x = Due.withBars(Due.RAW, 0, 0, came);
            int kept = Math.min(40, came);
            Due.due("30: BARS that came", x.count(2), came);
            for (int bar : new int[] {kept, kept + 1, 40, 41, -1, LOW, HIGH}) {
                String which = "(" + bar + ") of " + came;
                Due.due("19: bar" + which, x.bar(bar, 0), Due.BAD);
                Due.due("21: melt" + which, x.melt(bar), Due.BAD);
                Due.due("26: kind" + which, x.kind(bar), Due.BAD);
                Due.due("27: as" + which, x.as(bar, 0), Due.BAD);
                Due.due("28: ask" + which, x.ask(bar, 0), Due.BAD);
                Due.due("24: bloom" + which, x.bloom(bar, 0, 0, 1, 0), Due.BAD);
            }
            if (kept > 0) {
                Due.due("19: the last that is kept", x.bar(kept - 1, 5), kept + 5);
                Due.due("26: the last that is kept", x.kind(kept - 1), 3);
                Due.due("24: the last that is kept", x.bloom(kept - 1, 0, 0, 1, 0), Due.NULL);
                Due.due("21: the last that is kept", x.melt(kept - 1), x.bar(kept - 1, 0));
            }
            Due.due("20: those that are kept", x.recall(0), kept);
            Due.due("30: RECALLED ones", x.count(6), kept);
        }
        SweetLine x = Due.withBars(Due.RAW, 0, 0, 1);
        for (int what : Due.outside(0, 6)) {
            Due.due("19: bar(0, " + what + ")", x.bar(0, what), Due.BAD);
        }
    }

    private static void itsBeat() {
        SweetLine x = Due.cold(Due.RAW);
        x.beat(3);
        x.fill(0, 0, 150, 0, 0);
        x.beat(20);
        for (int bar = 0; bar < 3; bar++) {
            Due.due("19: how many BEATS there were ahead", x.bar(bar, 5), 9 + bar);
        }
        Due.due("19: its LOTS", x.bar(0, 3), 1);
        Due.due("19: not MELTED", x.bar(0, 6), 0);
    }

    private static void recallEachLot() {
        for (int lot = 0; lot <= 9; lot++) {
            SweetLine x = Due.withBars(Due.PLAIN, 0, lot, 2);
            for (int other = 0; other <= 9; other++) {
                if (other != lot) {
                    Due.due("20: recall(" + other + ") of LOT " + lot, x.recall(other), 0);
                }
            }
            Due.due("30: none is RECALLED", x.count(6), 0);
            Due.due("26: none is RECALLED", x.kind(1), 0);
            Due.due("20: recall(" + lot + ")", x.recall(lot), 2);
            Due.due("30: both are", x.count(6), 2);
            Due.due("26: both are", x.kind(1), 4);
            Due.due("19: LOTS", x.bar(1, 3), 1 << lot);
        }
        SweetLine x = Due.withBars(Due.PLAIN, 0, 0, 2);
        for (int lot : Due.outside(0, 9)) {
            Due.due("20: recall(" + lot + ")", x.recall(lot), Due.BAD);
        }
        for (int lot : new int[] {32, 64, -32}) {
            Due.due("20: recall(" + lot + "), which wraps to LOT 0", x.recall(lot), Due.BAD);
        }
        Due.due("30: none is RECALLED", x.count(6), 0);
    }

    /** Before there are any, again, and for those that come later. */
    private static void recallCounts() {
        SweetLine x = Due.cold(Due.RAW);
        Due.due("20: recall(9) of no BARS", x.recall(9), 0);
        x.fill(0, 0, 50, 0, 9);
        x.fill(1, 0, 50, 0, 8);
        x.beat(1);
        x.gear(2, 1);
        x.beat(1);
        Due.due("20: MOULDS are no BARS", x.recall(8), 0);
        x.beat(5);
        Due.due("30: one of two came", x.count(6), 1);
        x.beat(1);
        Due.due("30: both came", x.count(6), 2);
        Due.due("20: once more", x.recall(9), 1);
        Due.due("20: melted ones have it, too", x.melt(0) - 50 + x.recall(9), 1);
        Due.due("30: melted ones are RECALLED, too", x.count(6), 2);
    }

    private static void meltOnce() {
        SweetLine x = Due.withBars(Due.RAW, 9, 3, 40);
        int sum = 0;
        for (int bar = 39; bar >= 0; bar--) {
            sum += x.bar(bar, 0);
            Due.due("21: melt(" + bar + ")", x.melt(bar), sum);
            Due.due("21: once", x.melt(bar), Due.STATE);
            Due.due("19: MELTED", x.bar(bar, 6), 1);
            Due.due("22: the BIN", x.bin(0), sum);
        }
        Due.due("21: filling is not melted", sum <= x.grams(3) ? 1 : 0, 1);
        x.recall(3);
        Due.due("21: once, RECALLED or not", x.melt(0), Due.STATE);
        for (int bar : Due.outside(0, 39)) {
            Due.due("21: melt(" + bar + ")", x.melt(bar), Due.BAD);
        }
    }

    private static void meltBehindRecall() {
        for (int filling = 0; filling <= 1; filling++) {
            for (String text : new String[] {Due.PLAIN, Due.GOOD}) {
                SweetLine x = Due.withBars(text, filling, 3, 2);
                Due.due("21: neither DULL nor RECALLED", x.melt(0), Due.STATE);
                Due.due("19: not MELTED", x.bar(0, 6), 0);
                x.recall(4);
                Due.due("21: another LOT", x.melt(0), Due.STATE);
                x.recall(3);
                Due.due("21: RECALLED", x.melt(0), 50);
                Due.due("21: once", x.melt(0), Due.STATE);
                Due.due("21: the other", x.melt(1), 100);
            }
        }
    }

    private static void bins() {
        SweetLine x = Due.cold("recipe 0 50;".repeat(6));
        for (int recipe = 0; recipe < 6; recipe++) {
            Due.due("22: nothing at first", x.bin(recipe), 0);
            x.fill(0, recipe, 10 + recipe, 0, 0);
            x.gear(0, 10 + recipe);
            x.gear(14, 0);
            x.beat(7);
            Due.due("21: to BIN " + recipe, x.melt(recipe), 10 + recipe);
            for (int other = 0; other < 6; other++) {
                Due.due("22: bin(" + other + ")", x.bin(other), other <= recipe ? 10 + other : 0);
            }
        }
        for (int recipe : Due.outside(0, 5)) {
            Due.due("22: bin(" + recipe + ")", x.bin(recipe), Due.BAD);
        }
        SweetLine y = Due.told("recipe 0 0;");
        Due.due("22: bin(0)", y.bin(0), 0);
        Due.due("22: bin(1)", y.bin(1), Due.BAD);
    }

    /** The sums close behind every beat: with pouring to the last gram, draining, melting, missing. */
    private static void closed() {
        SweetLine x = Due.told("recipe 0 50;");
        x.fill(0, 0, 777, 0, 0);
        for (int k = 0; k < 60; k++) {
            x.beat(1);
            int filled = x.grams(0);
            Due.due("23: CLOSED behind " + k, x.grams(1) + x.grams(2) + x.grams(3) + x.grams(4), filled);
            if (k == 20) {
                x.fill(1, 0, 333, 0, 0);
                x.drain(1);
                x.fill(0, 0, 400, 0, 0);
            }
            if (k == 40) {
                x.melt(0);
                x.fill(0, 0, 100, 9, 0);
                x.drain(0);
            }
        }
        Due.due("23: FILLED", x.grams(0), 777 + 333 + 400 + 100);
        for (int what : Due.outside(0, 5)) {
            Due.due("23: grams(" + what + ")", x.grams(what), Due.BAD);
        }
    }

    /** By TARGET as the bar comes; nothing for one that has just so much, or less. */
    private static void givenAway() {
        for (int target : new int[] {10, 49, 50, 51, 200}) {
            SweetLine x = Due.cold(Due.RAW);
            x.fill(0, 0, 50, 0, 0);
            x.beat(6);
            x.gear(0, target);
            Due.due("23: nothing before it comes", x.grams(5), 0);
            x.beat(1);
            Due.due("23: GIVEN AWAY with TARGET " + target, x.grams(5), Math.max(0, 50 - target));
            x.gear(0, 10);
            Due.due("23: as it came", x.grams(5), Math.max(0, 50 - target));
        }
        SweetLine x = Due.cold(Due.RAW);
        x.gear(14, 5);
        x.fill(0, 0, 20000, 0, 0);
        x.beat(66);
        Due.due("23: those that are not kept, too", x.grams(5), 60 * 5);
        Due.due("23: those that are not kept, too", x.grams(3), 60 * 55);
    }

    private static int bloom(SweetLine x, int days, int degrees, int what) {
        x.set(0, 0, days);
        x.set(0, 1, degrees);
        return x.bloom(0, 0, 0, 1, what);
    }

    private static void bloomDegrees() {
        for (String text : new String[] {Due.PLAIN, Due.RAW}) {
            SweetLine x = Due.withBars(text, 0, 0, 1);
            int times = text.equals(Due.PLAIN) ? 1 : 2;
            x.sheet(0, 1, 2);
            for (int degrees = 0; degrees <= 60; degrees++) {
                int day = degrees <= 18 ? 100 : 100 + 10 * (degrees - 18);
                Due.due("24: a day of " + degrees, bloom(x, 1, degrees, 0), times * day);
            }
            for (int days = 0; days <= 99; days += 9) {
                Due.due("24: " + days + " days", bloom(x, days, 19, 0), times * days * 110);
            }
            Due.due("24: no day", bloom(x, 0, 60, 0), 0);
            Due.due("24: no day", bloom(x, 0, 60, 1), 1);
            Due.due("24: the most", bloom(x, 99, 60, 0), times * 99 * 520);
        }
    }

    private static void bloomHolds() {
        SweetLine x = Due.withBars(Due.PLAIN, 0, 0, 1);
        Due.setAll(x, 0, 0, 59, 18, 1, 18, 50, 20, 1, 19);
        Due.due("24: 5900", x.bloom(0, 0, 0, 1, 1), 1);
        Due.due("24: 6000", x.bloom(0, 0, 0, 2, 1), 1);
        Due.due("24: 6000 in one", x.bloom(0, 0, 4, 1, 1), 1);
        x.set(0, 3, 19);
        Due.due("24: 6010", x.bloom(0, 0, 0, 2, 0), 6010);
        Due.due("24: 6010", x.bloom(0, 0, 0, 2, 1), 0);
        SweetLine y = Due.withBars(Due.RAW, 0, 0, 1);
        Due.setAll(y, 0, 0, 29, 18, 1, 18);
        Due.due("24: twice 3000", y.bloom(0, 0, 0, 2, 1), 1);
        y.set(0, 3, 19);
        Due.due("24: twice 3010", y.bloom(0, 0, 0, 2, 0), 6020);
        Due.due("24: twice 3010", y.bloom(0, 0, 0, 2, 1), 0);
        y.recall(0);
        Due.due("24: not good, RECALLED or not", y.bloom(0, 0, 0, 2, 0), 6020);
    }

    /** For each n the last place from which n pairs are there, and the first from which they are not. */
    private static void bloomPairs() {
        for (int n = 1; n <= 20; n++) {
            SweetLine x = Due.withBars(Due.PLAIN, 0, 0, 1);
            x.sheet(0, 1, 2 * n + 3);
            for (int i = 0; i < 2 * n + 3; i++) {
                x.set(0, i, 1 + i);
            }
            int used = 0;
            for (int k = 0; k < n; k++) {
                used += (4 + 2 * k) * (100 + 10 * Math.max(0, 5 + 2 * k - 18));
            }
            Due.due("24: " + n + " pairs to the end", x.bloom(0, 0, 3, n, 0), used);
            Due.due("24: beyond the end", x.bloom(0, 0, 4, n, 0), Due.PLACE);
            Due.due("24: ahead of the first", x.bloom(0, 0, -1, n, 0), Due.PLACE);
            Due.due("24: wraps around", x.bloom(0, 0, HIGH - 2 * n + 1, n, 0), Due.PLACE);
            Due.due("24: wraps around", x.bloom(0, 0, HIGH, n, 0), Due.PLACE);
            Due.due("24: wraps around", x.bloom(0, 0, LOW, n, 0), Due.PLACE);
            Due.due("24: missing", x.bloom(0, 1, HIGH, n, 0), Due.NULL);
        }
        SweetLine x = Due.withBars(Due.PLAIN, 0, 0, 1);
        x.sheet(0, 2, 60);
        x.sheet(1, 2, 0);
        x.sheet(2, 2, 1);
        for (int n : Due.outside(1, 20)) {
            Due.due("24: " + n + " pairs", x.bloom(0, 0, 0, n, 0), Due.BAD);
        }
        Due.due("24: a SHEET of none", x.bloom(0, 1, 0, 1, 0), Due.PLACE);
        Due.due("24: a SHEET of half a pair", x.bloom(0, 2, 0, 1, 0), Due.PLACE);
        for (int what : Due.outside(0, 1)) {
            Due.due("24: what " + what, x.bloom(0, 0, 0, 1, what), Due.BAD);
        }
        for (int sheet : Due.outside(0, 7)) {
            Due.due("24: SHEET " + sheet, x.bloom(0, sheet, 0, 1, 0), Due.BAD);
        }
    }

    private static void bloomItems() {
        SweetLine x = Due.withBars(Due.PLAIN, 0, 0, 1);
        x.sheet(0, 2, 6);
        x.set(0, 0, 1);
        x.set(0, 4, 2);
        for (int pair = 0; pair < 3; pair++) {
            for (int days : Due.outside(0, 99)) {
                x.set(0, 2 * pair, days);
                Due.due("24: days " + days + " in pair " + pair, x.bloom(0, 0, 0, 3, 0), Due.BAD);
                Due.due("24: days " + days + " in pair " + pair, x.bloom(0, 0, 0, 3, 1), Due.BAD);
            }
            x.set(0, 2 * pair, 1);
            for (int degrees : Due.outside(0, 60)) {
                x.set(0, 2 * pair + 1, degrees);
                Due.due("24: degrees " + degrees + " in pair " + pair, x.bloom(0, 0, 0, 3, 0), Due.BAD);
            }
            x.set(0, 2 * pair + 1, 0);
            Due.due("31: status() stays with BAD", x.drop(7) - Due.NULL, 0);
            x.bloom(0, 0, 0, 1, 2);
            Due.due("31: status() stays with BAD", x.status(), 1);
        }
        Due.due("24: all are right", x.bloom(0, 0, 0, 3, 0), 300);
        x.set(0, 2, 100);
        Due.due("24: PLACE ahead of an ITEM", x.bloom(0, 0, 1, 3, 0), Due.PLACE);
        Due.due("24: BAD, an ITEM", x.bloom(0, 0, 0, 3, 0), Due.BAD);
        Due.due("31: PLACE stays", x.status(), 2);
        Due.due("24: pairs ahead of it alone", x.bloom(0, 0, 0, 1, 0), 100);
        Due.due("24: pairs behind it alone", x.bloom(0, 0, 4, 1, 0), 100);
    }

    private static void orderItems() {
        SweetLine x = new SweetLine();
        int[] least = {0, 1, 0};
        int[] most = {15, 99, 999};
        for (int order = 0; order < 3; order++) {
            for (int part = 0; part < 3; part++) {
                Due.setAll(x, 0, 2, 0, 1, 999, 0, 1, 999, 0, 1, 999);
                for (int v : Due.outside(least[part], most[part])) {
                    x.set(0, 3 * order + part, v);
                    Due.due("25: ITEM " + v + " as part " + part, x.orders(0, 0, 3, -1), Due.BAD);
                }
                x.set(0, 3 * order + part, least[part]);
                Due.due("25: the least of part " + part, x.orders(0, 0, 3, -1) >= 0 ? 1 : 0, 1);
                x.set(0, 3 * order + part, most[part]);
                Due.due("25: the most of part " + part, x.orders(0, 0, 3, 2) >= 0 ? 1 : 0, 1);
            }
            x = new SweetLine();
        }
        Due.setAll(x, 0, 2, 0, 1, 0, 0, 0, 0);
        Due.due("31: NULL", x.drop(7), Due.NULL);
        Due.due("25: BAD, an ITEM", x.orders(0, 0, 2, -1), Due.BAD);
        Due.due("31: status() stays with BAD", x.status(), 1);
        Due.due("25: the first alone", x.orders(0, 0, 1, -1), 1);
    }

    private static void orderNumbers() {
        SweetLine x = new SweetLine();
        x.sheet(0, 2, 60);
        for (int k = 0; k < 20; k++) {
            x.set(0, 3 * k + 1, 1);
            x.set(0, 3 * k + 2, 999);
        }
        for (int n = 1; n <= 7; n++) {
            Due.due("25: the cost of " + n, x.orders(0, 0, n, -1), 0);
            for (int k = 0; k < n; k++) {
                Due.due("25: number " + k + " of " + n, x.orders(0, 0, n, k), k);
            }
            for (int k : Due.outside(-1, n - 1)) {
                Due.due("25: number " + k + " of " + n, x.orders(0, 0, n, k), Due.BAD);
            }
        }
        for (int n : Due.outside(1, 7)) {
            Due.due("25: " + n + " ORDERS", x.orders(0, 0, n, -1), Due.BAD);
        }
        for (int sheet : Due.outside(0, 7)) {
            Due.due("25: SHEET " + sheet, x.orders(sheet, 0, 1, -1), Due.BAD);
        }
    }

    /** All pairs of allergens: only what the first has and the second has not is cleaned. */
    private static void cleaned() {
        SweetLine x = new SweetLine();
        int calls = 0;
        for (int a = 0; a <= 15; a++) {
            for (int b = 0; b <= 15; b++) {
                if (calls % 100 == 0) {
                    x = new SweetLine();
                    Due.setAll(x, 0, 2, 0, 1, 1, 0, 1, 999);
                }
                calls++;
                x.set(0, 0, a);
                x.set(0, 3, b);
                boolean cleaned = (a & b) != a;
                Due.due("25: " + a + " ahead of " + b, x.orders(0, 0, 2, -1), cheaper(a, b));
                Due.due("25: CLEANED or not", x.orders(0, 0, 2, 0), cleaned && cheaper(a, b) < 5 ? 1 : 0);
            }
        }
    }

    /** ORDER 0 is due at hour 1: as the second it is late by 1, and by 3 more if that is cleaned. */
    private static int cheaper(int a, int b) {
        int first = (a & b) != a ? 5 : 0;
        int second = (a & b) != b ? 5 + 4 : 1;
        return Math.min(first, second);
    }

    private static void late() {
        SweetLine x = new SweetLine();
        Due.setAll(x, 0, 2, 0, 9, 9);
        Due.due("25: just at its due", x.orders(0, 0, 1, -1), 0);
        x.set(0, 2, 8);
        Due.due("25: an hour behind", x.orders(0, 0, 1, -1), 1);
        x.set(0, 2, 10);
        Due.due("25: an hour ahead counts nothing", x.orders(0, 0, 1, -1), 0);
        Due.setAll(x, 0, 2, 0, 99, 0, 0, 99, 0);
        Due.due("25: 99 and 198", x.orders(0, 0, 2, -1), 297);
        Due.setAll(x, 0, 2, 1, 2, 2, 2, 2, 7);
        Due.due("25: 3 hours of cleaning, just in time", x.orders(0, 0, 2, -1), 5);
        x.set(0, 5, 6);
        Due.due("25: one behind by them", x.orders(0, 0, 2, -1), 6);
    }

    private static void dueRow(SweetLine x, String call, int cost, int... row) {
        Due.due(call + ", the cost", x.orders(0, 0, row.length, -1), cost);
        for (int k = 0; k < row.length; k++) {
            Due.due(call + ", number " + k, x.orders(0, 0, row.length, k), row[k]);
        }
    }

    private static void firstAsARow() {
        SweetLine x = new SweetLine();
        Due.setAll(x, 0, 2, 0, 5, 0, 0, 5, 0, 0, 5, 0);
        dueRow(x, "25: all alike", 30, 0, 1, 2);
        Due.setAll(x, 0, 2, 1, 1, 999, 0, 1, 999, 1, 1, 999, 0, 1, 999);
        dueRow(x, "25: 1 3 0 2 is the first without cleaning", 0, 1, 3, 0, 2);
        Due.setAll(x, 0, 2, 1, 1, 999, 2, 1, 999, 4, 1, 999);
        dueRow(x, "25: cleaned twice in each", 10, 0, 1, 2);
        Due.setAll(x, 0, 2, 1, 1, 999, 2, 1, 999, 1, 1, 999);
        dueRow(x, "25: cleaned once, the first such", 5, 0, 2, 1);
        Due.setAll(x, 0, 2, 0, 2, 999, 0, 1, 0);
        dueRow(x, "25: the second first costs less", 1, 1, 0);
    }

    private static void sevenOrders() {
        SweetLine x = new SweetLine();
        x.sheet(0, 1, 21);
        for (int k = 0; k < 7; k++) {
            x.set(0, 3 * k, k % 2 == 0 ? 5 : 10);
            x.set(0, 3 * k + 1, 99);
        }
        int hours = 0;
        for (int k = 1; k <= 7; k++) {
            hours += 99 * k;
        }
        dueRow(x, "25: the longest, cleaned once, behind four", hours + 5 + 9, 0, 2, 4, 6, 1, 3, 5);
        for (int k = 0; k < 7; k++) {
            x.set(0, 3 * k, 15 - k);
            x.set(0, 3 * k + 1, 7 - k);
            x.set(0, 3 * k + 2, 999);
        }
        Due.due("25: seven without lateness", x.orders(0, 0, 7, -1) % 5, 0);
        for (int k = 0; k < 7; k++) {
            x.set(0, 3 * k, 0);
            x.set(0, 3 * k + 2, 0);
        }
        dueRow(x, "25: the shortest first", 1 + 3 + 6 + 10 + 15 + 21 + 28, 6, 5, 4, 3, 2, 1, 0);
    }

    private static void ordersPlaces() {
        for (int n = 1; n <= 7; n++) {
            SweetLine x = new SweetLine();
            x.sheet(0, 1, 3 * n + 2);
            for (int k = 0; k < n; k++) {
                x.set(0, 3 + 3 * k, 1);
            }
            Due.due("25: " + n + " to the end", x.orders(0, 2, n, -1), n * (n + 1) / 2);
            Due.due("25: beyond the end", x.orders(0, 3, n, -1), Due.PLACE);
            Due.due("25: ahead of the first", x.orders(0, -1, n, -1), Due.PLACE);
            Due.due("25: wraps around", x.orders(0, HIGH - 3 * n + 1, n, -1), Due.PLACE);
            Due.due("25: wraps around", x.orders(0, HIGH, n, -1), Due.PLACE);
            Due.due("25: wraps around", x.orders(0, LOW, n, -1), Due.PLACE);
            Due.due("25: missing", x.orders(1, HIGH, n, -1), Due.NULL);
        }
        SweetLine x = new SweetLine();
        x.sheet(0, 1, 0);
        x.sheet(1, 1, 2);
        Due.due("25: a SHEET of none", x.orders(0, 0, 1, -1), Due.PLACE);
        Due.due("25: a SHEET of two ITEMS", x.orders(1, 0, 1, -1), Due.PLACE);
        Due.due("25: BAD ahead of NULL", x.orders(7, 0, 8, -1), Due.BAD);
        Due.due("25: BAD ahead of PLACE", x.orders(0, 0, 1, 1), Due.BAD);
    }
}
