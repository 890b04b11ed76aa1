/** Promises 1 to 5: a new object, sheet, set, copy, drop. */
public final class SheetsTest {
    private static final int LOW = Integer.MIN_VALUE, HIGH = Integer.MAX_VALUE;

    public static void main(String[] args) {
        newObject();
        sheet();
        set();
        copyMoves();
        copyRefuses();
        drop();
        Due.end();
    }

    private static void newObject() {
        SweetLine x = new SweetLine();
        for (int what = 0; what <= 7; what++) {
            Due.due("1: count(" + what + ")", x.count(what), 0);
        }
        for (int what = 0; what <= 5; what++) {
            Due.due("1: grams(" + what + ")", x.grams(what), 0);
        }
        for (int station = 0; station < 8; station++) {
            Due.due("1: mould(" + station + ", 0)", x.mould(station, 0), Due.NONE);
        }
        for (int sheet = 0; sheet < 8; sheet++) {
            Due.due("1: drop(" + sheet + ")", new SweetLine().drop(sheet), Due.NULL);
        }
        Due.due("1: status()", x.status(), 0);
        Due.due("1: fault()", x.fault(), 0);
        Due.due("1: trace(0)", x.trace(0), Due.NONE);
        int[] gears = {50, 0, 0, 3, 3, 3, 3, 3, 3, 3, 3, 3, 3, 0, 0};
        for (int what = 0; what < gears.length; what++) {
            Due.due("1: gear(" + what + ", ..)", x.gear(what, gears[what]), gears[what]);
        }
        Due.due("1: belt(8)", x.belt(8), 8);
        Due.due("1: two objects share nothing", x.sheet(0, 0, 3) - 3 + new SweetLine().count(0), 0);
    }

    private static void sheet() {
        SweetLine x = new SweetLine();
        Due.due("2: sheet(0, 0, 0)", x.sheet(0, 0, 0), 0);
        Due.due("2: sheet(7, 2, 60)", x.sheet(7, 2, 60), 60);
        Due.due("2: count(0)", x.count(0), 2);
        Due.due("2: sheet(7, 2, 61)", x.sheet(7, 2, 61), Due.BAD);
        Due.due("2: sheet(7, 2, HIGH)", x.sheet(7, 2, HIGH), Due.BAD);
        Due.due("2: sheet(8, 0, 1)", x.sheet(8, 0, 1), Due.BAD);
        Due.due("2: sheet(-1, 0, 1)", x.sheet(-1, 0, 1), Due.BAD);
        Due.due("2: sheet(0, 3, 1)", x.sheet(0, 3, 1), Due.BAD);
        Due.due("2: sheet(0, -1, 1)", x.sheet(0, -1, 1), Due.BAD);
        Due.due("2: sheet(0, 3, -1), BAD ahead of SIZE", x.sheet(0, 3, -1), Due.BAD);
        Due.due("2: sheet(8, 0, -1), BAD ahead of SIZE", x.sheet(8, 0, -1), Due.BAD);
        Due.due("2: status() is not changed by BAD", x.status(), 0);
        Due.due("2: sheet(7, 0, -1)", x.sheet(7, 0, -1), Due.SIZE);
        Due.due("2: sheet(7, 0, LOW)", x.sheet(7, 0, LOW), Due.SIZE);
        Due.due("2: status()", x.status(), 4);
        Due.due("2: the sheet stays: set(7, 59, 70000)", x.set(7, 59, 70000), 70000);
        Due.due("2: sheet(7, 2, 3) in its place", x.sheet(7, 2, 3), 3);
        Due.due("2: status() of a call without a finding", x.status(), 0);
        Due.due("2: set(7, 3, 1) is beyond it", x.set(7, 3, 1), Due.PLACE);
        x.set(7, 1, 5);
        x.sheet(7, 2, 3);
        x.sheet(6, 2, 3);
        x.set(5, 0, 9);
        x.sheet(5, 2, 3);
        x.set(5, 0, 16);
        x.sheet(5, 2, 3);
        x.set(5, 1, 1);
        Due.due("2: ITEM 0 is 0 at first", x.orders(5, 0, 1, -1), 1);
        Due.due("2: ITEMS are 0 at first (hours 0)", x.orders(7, 0, 1, -1), Due.BAD);
        x.set(7, 1, 5);
        Due.due("2: ITEMS are 0 at first (due 0)", x.orders(7, 0, 1, -1), 5);
    }

    private static void set() {
        SweetLine x = new SweetLine();
        Due.due("3: set(0, 0, 1)", x.set(0, 0, 1), Due.NULL);
        Due.due("3: set(8, 0, 1)", x.set(8, 0, 1), Due.BAD);
        Due.due("3: set(-1, 0, 1)", x.set(-1, 0, 1), Due.BAD);
        Due.due("3: status()", x.status(), 1);
        x.sheet(0, 0, 2);
        x.sheet(1, 1, 2);
        x.sheet(2, 2, 2);
        int[] given = {127, 128, 255, 256, -1, -129, 32767, 32768, 65535, 65536, -32769, LOW, HIGH};
        int[] bytes = {127, -128, -1, 0, -1, 127, -1, 0, -1, 0, -1, 0, -1};
        int[] shorts = {127, 128, 255, 256, -1, -129, 32767, -32768, -1, 0, 32767, 0, -1};
        for (int k = 0; k < given.length; k++) {
            Due.due("3: set(0, 1, " + given[k] + ")", x.set(0, 1, given[k]), bytes[k]);
            Due.due("3: set(1, 1, " + given[k] + ")", x.set(1, 1, given[k]), shorts[k]);
            Due.due("3: set(2, 1, " + given[k] + ")", x.set(2, 1, given[k]), given[k]);
        }
        for (int i : new int[] {2, -1, 60, LOW, HIGH}) {
            Due.due("3: set(0, " + i + ", 1)", x.set(0, i, 1), Due.PLACE);
        }
        Due.due("3: status()", x.status(), 2);
        Due.due("3: set(0, 0, 1)", x.set(0, 0, 1), 1);
        Due.due("3: status()", x.status(), 0);
    }

    /** The hours of the ORDER at item i tell what the item behind it is: it is late by all of them. */
    private static void dueHours(SweetLine x, String call, int sheet, int... hours) {
        for (int k = 0; k < hours.length; k++) {
            Due.due(call + ", item " + (3 * k + 1), x.orders(sheet, 3 * k, 1, -1), hours[k]);
        }
    }

    private static void copyMoves() {
        SweetLine x = new SweetLine();
        Due.setAll(x, 0, 2, 0, 1, 0, 0, 2, 0, 0, 3, 0, 0, 4, 0);
        Due.due("4: copy(0, 0, 0, 3, 9), onto itself, up", x.copy(0, 0, 0, 3, 9), 9);
        dueHours(x, "4: up", 0, 1, 1, 2, 3);
        Due.due("4: copy(0, 6, 0, 3, 6), onto itself, down", x.copy(0, 6, 0, 3, 6), 6);
        dueHours(x, "4: down", 0, 1, 2, 3, 3);
        x.sheet(1, 2, 12);
        Due.due("4: copy(0, 3, 1, 6, 6)", x.copy(0, 3, 1, 6, 6), 6);
        dueHours(x, "4: to another", 1, Due.BAD, Due.BAD, 2, 3);
        Due.due("4: copy(0, 0, 1, 0, 12), all", x.copy(0, 0, 1, 0, 12), 12);
        dueHours(x, "4: all", 1, 1, 2, 3, 3);
        dueHours(x, "4: the first is as it was", 0, 1, 2, 3, 3);
        Due.due("4: copy(0, 12, 1, 12, 0), none, at the ends", x.copy(0, 12, 1, 12, 0), 0);
        Due.due("4: status()", x.status(), 0);
    }

    private static void copyRefuses() {
        SweetLine x = new SweetLine();
        x.sheet(0, 0, 4);
        x.sheet(1, 0, 6);
        x.sheet(2, 1, 4);
        Due.due("4: copy(8, 0, 0, 0, 1)", x.copy(8, 0, 0, 0, 1), Due.BAD);
        Due.due("4: copy(0, 0, -1, 0, 1)", x.copy(0, 0, -1, 0, 1), Due.BAD);
        Due.due("4: copy(7, 0, 8, 0, 1), BAD ahead of NULL", x.copy(7, 0, 8, 0, 1), Due.BAD);
        Due.due("4: copy(7, 0, 0, 0, 1)", x.copy(7, 0, 0, 0, 1), Due.NULL);
        Due.due("4: copy(0, 0, 7, 0, 9), NULL ahead of PLACE", x.copy(0, 0, 7, 0, 9), Due.NULL);
        Due.due("4: status()", x.status(), 1);
        Due.due("4: copy(0, 0, 2, 0, 0)", x.copy(0, 0, 2, 0, 0), Due.STORE);
        Due.due("4: copy(0, 9, 2, 0, 1), STORE ahead of PLACE", x.copy(0, 9, 2, 0, 1), Due.STORE);
        Due.due("4: status()", x.status(), 5);
        int[][] places = {{0, 0, 5}, {1, 0, 4}, {0, 3, 4}, {-1, 0, 1}, {0, -1, 1}, {0, 0, -1}, {5, 0, 0}, {0, 7, 0},
            {HIGH, 0, 1}, {1, 0, HIGH}, {0, HIGH, 1}, {HIGH, HIGH, HIGH}, {LOW, 0, 1}, {0, LOW, 1}, {0, 0, LOW},
            {HIGH, 0, 0}, {2, 2, HIGH - 1}};
        for (int[] p : places) {
            String call = "4: copy(0, " + p[0] + ", 1, " + p[1] + ", " + p[2] + ")";
            Due.due(call, x.copy(0, p[0], 1, p[1], p[2]), Due.PLACE);
        }
        Due.due("4: status()", x.status(), 2);
        Due.due("4: copy(0, 4, 1, 6, 0)", x.copy(0, 4, 1, 6, 0), 0);
    }

    private static void drop() {
        SweetLine x = new SweetLine();
        x.sheet(3, 1, 17);
        Due.due("5: drop(8)", x.drop(8), Due.BAD);
        Due.due("5: drop(-1)", x.drop(-1), Due.BAD);
        Due.due("5: drop(3)", x.drop(3), 17);
        Due.due("5: status()", x.status(), 0);
        Due.due("5: count(0)", x.count(0), 0);
        Due.due("5: drop(3) again", x.drop(3), Due.NULL);
        Due.due("5: status()", x.status(), 1);
        Due.due("5: set(3, 0, 1)", x.set(3, 0, 1), Due.NULL);
        x.sheet(3, 1, 0);
        Due.due("5: count(0) with a sheet of none", x.count(0), 1);
        Due.due("5: drop(3) of none", x.drop(3), 0);
    }
}
