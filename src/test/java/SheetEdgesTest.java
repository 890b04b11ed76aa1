/** Promises 1 to 5, the edges: each sentence on SHEETS that names one. */
public final class SheetEdgesTest {
    private static final int LOW = Integer.MIN_VALUE, HIGH = Integer.MAX_VALUE;

    public static void main(String[] args) {
        missingAtFirst();
        sizes();
        inPlaceOf();
        zeroAtFirst();
        lowestBits();
        itemsAreWhatWasSet();
        places();
        copyEnds();
        copyOverItself();
        copyLanes();
        copyOrder();
        drop();
        statusOfEach();
        Due.end();
    }

    private static void missingAtFirst() {
        for (int sheet = 0; sheet < 8; sheet++) {
            SweetLine x = new SweetLine();
            Due.due("1: SHEET " + sheet + " is missing: set", x.set(sheet, 0, 1), Due.NULL);
            Due.due("1: SHEET " + sheet + " is missing: drop", x.drop(sheet), Due.NULL);
            Due.due("1: SHEET " + sheet + " is missing: orders", x.orders(sheet, 0, 1, -1), Due.NULL);
            Due.due("1: SHEET " + sheet + " is missing: copy", x.copy(sheet, 0, sheet, 0, 0), Due.NULL);
            Due.due("2: SHEET " + sheet, x.sheet(sheet, 2, 60), 60);
            Due.due("30: one SHEET", x.count(0), 1);
            for (int other = 0; other < 8; other++) {
                Due.due("2: another is missing", x.set(other, 59, 7), other == sheet ? 7 : Due.NULL);
            }
        }
    }

    private static void sizes() {
        for (int lane = 0; lane <= 2; lane++) {
            SweetLine x = new SweetLine();
            for (int n = 0; n <= 60; n++) {
                Due.due("2: sheet(0, " + lane + ", " + n + ")", x.sheet(0, lane, n), n);
                Due.due("3: one behind the last of " + n, x.set(0, n, 1), Due.PLACE);
                Due.due("3: the last of " + n, x.set(0, n - 1, 1), n == 0 ? Due.PLACE : 1);
                Due.due("3: the first of " + n, x.set(0, 0, 2), n == 0 ? Due.PLACE : 2);
            }
            Due.due("2: sheet(0, " + lane + ", 61)", x.sheet(0, lane, 61), Due.BAD);
            Due.due("2: what was there stays", x.set(0, 59, 5), 5);
            Due.due("2: sheet(0, " + lane + ", -1)", x.sheet(0, lane, -1), Due.SIZE);
            Due.due("2: what was there stays", x.drop(0), 60);
        }
    }

    private static void inPlaceOf() {
        SweetLine x = new SweetLine();
        x.sheet(0, 0, 60);
        Due.due("2: fewer, of another LANE", x.sheet(0, 1, 2), 2);
        Due.due("2: as many as now", x.set(0, 2, 1), Due.PLACE);
        Due.due("2: the new LANE", x.set(0, 1, 32767), 32767);
        Due.due("2: more, of another LANE", x.sheet(0, 2, 60), 60);
        Due.due("2: the new LANE", x.set(0, 59, HIGH), HIGH);
        Due.due("2: none at all", x.sheet(0, 0, 0), 0);
        Due.due("2: none at all", x.set(0, 0, 0), Due.PLACE);
        Due.due("30: one of none counts", x.count(0), 1);
        for (int sheet = 0; sheet < 8; sheet++) {
            x.sheet(sheet, 0, 1);
        }
        Due.due("30: all SHEETS", x.count(0), 8);
    }

    /** As hours, 0 is refused; as allergens and due, it is the least. */
    private static void zeroAtFirst() {
        for (int lane = 0; lane <= 2; lane++) {
            SweetLine x = new SweetLine();
            x.sheet(0, lane, 60);
            for (int i = 0; i < 60; i++) {
                x.set(0, i, 77);
            }
            Due.due("2: anew", x.sheet(0, lane, 60), 60);
            dueZeros(x, "2: anew", 0, 60);
            for (int i = 0; i < 60; i++) {
                x.set(0, i, 77);
            }
            x.drop(0);
            Due.due("2: behind drop", x.sheet(0, lane, 60), 60);
            dueZeros(x, "2: behind drop", 0, 60);
        }
    }

    private static void dueZeros(SweetLine x, String call, int sheet, int n) {
        for (int i = 0; i + 3 <= n; i += 3) {
            Due.due(call + ", ITEM " + (i + 1) + " is 0", x.orders(sheet, i, 1, -1), Due.BAD);
            x.set(sheet, i + 1, 9);
            Due.due(call + ", ITEMS " + i + ", " + (i + 2) + " are 0", x.orders(sheet, i, 1, -1), 9);
        }
    }

    private static void lowestBits() {
        SweetLine x = new SweetLine();
        for (int lane = 0; lane <= 2; lane++) {
            x.sheet(lane, lane, 1);
        }
        int[] values = {0, 1, -1, 127, 128, -128, -129, 255, 256, 257, 32767, 32768, -32768, -32769, 65535, 65536, 65537,
            LOW, LOW + 1, HIGH, HIGH - 1, 1 << 24, -(1 << 24), 0x12345678, 0x87654321};
        for (int v : values) {
            Due.due("3: byte " + v, x.set(0, 0, v), (byte) v);
            Due.due("3: short " + v, x.set(1, 0, v), (short) v);
            Due.due("3: int " + v, x.set(2, 0, v), v);
        }
    }

    /** What set answers is what the ITEM is for those that use it. */
    private static void itemsAreWhatWasSet() {
        SweetLine x = Due.withBars(Due.PLAIN, 0, 0, 1);
        int[] wraps = {256, 65536, 1 << 24};
        for (int lane = 0; lane <= 1; lane++) {
            x.sheet(0, lane, 3);
            for (int wrap : new int[] {wraps[lane], -wraps[lane], wraps[2], LOW}) {
                Due.due("3: hours that wrap", x.set(0, 1, wrap + 42), 42);
                Due.due("3: hours that wrap", x.orders(0, 0, 1, -1), 42);
                Due.due("3: days that wrap", x.bloom(0, 0, 1, 1, 0), 4200);
            }
        }
        x.sheet(0, 2, 3);
        for (int wrap : new int[] {256, 65536, 1 << 24, LOW}) {
            Due.due("3: ints do not wrap", x.set(0, 1, wrap + 42), wrap + 42);
            Due.due("3: hours above 99", x.orders(0, 0, 1, -1), Due.BAD);
        }
        x.sheet(0, 0, 3);
        x.set(0, 1, 9);
        for (int v : new int[] {128, 200, 255}) {
            Due.due("3: a byte has a sign", x.set(0, 2, v), v - 256);
            Due.due("3: a due below 0", x.orders(0, 0, 1, -1), Due.BAD);
        }
        x.set(0, 2, 127);
        Due.due("3: the largest byte", x.orders(0, 0, 1, -1), 0);
    }

    private static void places() {
        SweetLine x = new SweetLine();
        x.sheet(0, 2, 60);
        x.sheet(1, 2, 1);
        x.sheet(2, 2, 0);
        for (int i : Due.outside(0, 59)) {
            Due.due("3: set(0, " + i + ", 1)", x.set(0, i, 1), Due.PLACE);
        }
        for (int i : Due.outside(0, 0)) {
            Due.due("3: set(1, " + i + ", 1)", x.set(1, i, 1), Due.PLACE);
            Due.due("3: set(2, " + i + ", 1)", x.set(2, i, 1), Due.PLACE);
        }
        Due.due("3: set(2, 0, 1) of none", x.set(2, 0, 1), Due.PLACE);
    }

    /** For all i, j, n of two short SHEETS: just those that stay within both ends. */
    private static void copyEnds() {
        for (int i = -1; i <= 4; i++) {
            for (int j = -1; j <= 3; j++) {
                for (int n = -1; n <= 4; n++) {
                    SweetLine x = new SweetLine();
                    x.sheet(0, 1, 3);
                    x.sheet(1, 1, 2);
                    boolean within = i >= 0 && j >= 0 && n >= 0 && i + n <= 3 && j + n <= 2;
                    String call = "4: copy(0, " + i + ", 1, " + j + ", " + n + ")";
                    Due.due(call, x.copy(0, i, 1, j, n), within ? n : Due.PLACE);
                    Due.due("31: status() behind " + call, x.status(), within ? 0 : 2);
                }
            }
        }
        SweetLine x = new SweetLine();
        x.sheet(0, 1, 60);
        x.sheet(1, 1, 60);
        x.sheet(2, 1, 0);
        Due.due("4: all of 60", x.copy(0, 0, 1, 0, 60), 60);
        Due.due("4: 61", x.copy(0, 0, 1, 0, 61), Due.PLACE);
        Due.due("4: none of none", x.copy(2, 0, 2, 0, 0), 0);
        Due.due("4: one of none", x.copy(2, 0, 2, 0, 1), Due.PLACE);
        for (int v : Due.outside(0, 60)) {
            Due.due("4: i " + v, x.copy(0, v, 1, 0, 0), Due.PLACE);
            Due.due("4: j " + v, x.copy(0, 0, 1, v, 0), Due.PLACE);
            Due.due("4: n " + v, x.copy(0, 0, 1, 0, v), Due.PLACE);
        }
        Due.due("4: i and n wrap around to 4", x.copy(0, HIGH, 1, 0, LOW + 5), Due.PLACE);
        Due.due("4: i and n wrap around to below 0", x.copy(0, 1, 1, 1, HIGH), Due.PLACE);
    }

    /** As they were ahead: a SHEET onto itself, up and down by 1 to 3. */
    private static void copyOverItself() {
        for (int i = 0; i <= 3; i++) {
            for (int j = 0; j <= 3; j++) {
                SweetLine x = new SweetLine();
                x.sheet(0, 2, 8);
                x.sheet(1, 2, 3);
                int[] want = {11, 12, 13, 14, 15, 16, 17, 18};
                for (int k = 0; k < 8; k++) {
                    x.set(0, k, want[k]);
                }
                int[] ahead = want.clone();
                Due.due("4: copy(0, " + i + ", 0, " + j + ", 5)", x.copy(0, i, 0, j, 5), 5);
                for (int k = 0; k < 5; k++) {
                    want[j + k] = ahead[i + k];
                }
                for (int k = 0; k < 8; k++) {
                    x.copy(0, k, 1, 1, 1);
                    Due.due("4: " + i + " to " + j + ", ITEM " + k, x.orders(1, 0, 1, -1), want[k]);
                }
            }
        }
    }

    private static void copyLanes() {
        SweetLine x = new SweetLine();
        for (int lane = 0; lane <= 2; lane++) {
            x.sheet(lane, lane, 3);
            x.sheet(3 + lane, lane, 3);
        }
        for (int a = 0; a <= 2; a++) {
            for (int b = 3; b <= 5; b++) {
                boolean same = b == a + 3;
                Due.due("4: LANES " + a + ", " + (b - 3), x.copy(a, 0, b, 0, 3), same ? 3 : Due.STORE);
                Due.due("4: STORE, of none, too", x.copy(a, 0, b, 0, 0), same ? 0 : Due.STORE);
                Due.due("4: STORE ahead of PLACE", x.copy(a, -1, b, 99, LOW), same ? Due.PLACE : Due.STORE);
            }
        }
    }

    private static void copyOrder() {
        SweetLine x = new SweetLine();
        x.sheet(0, 0, 3);
        x.sheet(1, 1, 3);
        for (int sheet : Due.outside(0, 7)) {
            Due.due("4: BAD ahead of NULL", x.copy(sheet, 0, 7, 0, 1), Due.BAD);
            Due.due("4: BAD ahead of NULL", x.copy(7, 0, sheet, 0, 1), Due.BAD);
            Due.due("4: BAD ahead of PLACE", x.copy(0, -1, sheet, 0, 1), Due.BAD);
            Due.due("4: both", x.copy(sheet, 0, sheet, 0, 1), Due.BAD);
        }
        Due.due("4: NULL of the first", x.copy(7, -1, 1, -1, -1), Due.NULL);
        Due.due("4: NULL of the second", x.copy(1, -1, 7, -1, -1), Due.NULL);
        Due.due("4: NULL of none", x.copy(6, 0, 7, 0, 0), Due.NULL);
    }

    private static void drop() {
        SweetLine x = new SweetLine();
        for (int n : new int[] {0, 1, 59, 60}) {
            for (int sheet = 0; sheet < 8; sheet += 7) {
                x.sheet(sheet, 1, n);
                Due.due("5: drop(" + sheet + ") of " + n, x.drop(sheet), n);
                Due.due("5: it is missing", x.drop(sheet), Due.NULL);
                Due.due("5: it is missing", x.set(sheet, 0, 0), Due.NULL);
                Due.due("5: it does not count", x.count(0), 0);
            }
        }
        for (int sheet : Due.outside(0, 7)) {
            Due.due("5: drop(" + sheet + ")", x.drop(sheet), Due.BAD);
        }
    }

    /** Each call with a SHEET sets status() to its finding, or to 0, whatever it was. */
    private static void statusOfEach() {
        SweetLine x = Due.withBars(Due.PLAIN, 0, 0, 1);
        x.sheet(0, 1, 3);
        x.set(0, 1, 5);
        Due.due("31: NULL", x.drop(7) + 10 * x.status(), Due.NULL + 10);
        Due.due("31: sheet without a finding", x.sheet(1, 0, 3) + 10 * x.status(), 3);
        Due.due("31: STORE", x.copy(0, 0, 1, 0, 1) + 10 * x.status(), Due.STORE + 50);
        Due.due("31: set without a finding", x.set(1, 0, 3) + 10 * x.status(), 3);
        Due.due("31: PLACE", x.set(1, 3, 3) + 10 * x.status(), Due.PLACE + 20);
        Due.due("31: copy without a finding", x.copy(0, 0, 0, 1, 1) + 10 * x.status(), 1);
        Due.due("31: SIZE", x.sheet(1, 0, -1) + 10 * x.status(), Due.SIZE + 40);
        Due.due("31: drop without a finding", x.drop(1) + 10 * x.status(), 3);
        Due.due("31: KIND", x.as(0, 3) + 10 * x.status(), Due.KIND + 30);
        x.set(0, 1, 5);
        Due.due("31: KIND", x.as(0, 3) + 10 * x.status(), Due.KIND + 30);
        Due.due("31: orders without a finding", x.orders(0, 0, 1, 0) + 10 * x.status(), 0);
        Due.due("31: NULL", x.orders(7, 0, 1, 0) + 10 * x.status(), Due.NULL + 10);
        Due.due("31: bloom without a finding", x.bloom(0, 0, 0, 1, 0) + 10 * x.status(), 0);
        Due.due("31: PLACE", x.bloom(0, 0, 2, 1, 0) + 10 * x.status(), Due.PLACE + 20);
        Due.due("31: as without a finding", x.as(0, 0) + 10 * x.status(), 50);
    }
}
