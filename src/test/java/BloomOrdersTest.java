/** Promises 24 and 25: bloom, orders. */
public final class BloomOrdersTest {
    private static final int LOW = Integer.MIN_VALUE, HIGH = Integer.MAX_VALUE;

    public static void main(String[] args) {
        bloom();
        bloomRefuses();
        bloomItems();
        orders();
        ordersAreBest();
        ordersRefuse();
        orderItems();
        Due.end();
    }

    private static void dueBloom(SweetLine x, int i, int n, int used) {
        String call = "24: bloom(0, 0, " + i + ", " + n + ", ";
        Due.due(call + "0)", x.bloom(0, 0, i, n, 0), used);
        Due.due(call + "1)", x.bloom(0, 0, i, n, 1), used <= 6000 ? 1 : 0);
    }

    private static void bloom() {
        SweetLine x = Due.withBars(Due.PLAIN, 0, 0, 1);
        Due.setAll(x, 0, 1, 60, 18, 0, 60, 60, 0, 1, 19, 99, 60, 7, 20);
        dueBloom(x, 0, 1, 6000);
        dueBloom(x, 0, 2, 6000);
        dueBloom(x, 2, 1, 0);
        dueBloom(x, 4, 1, 6000);
        dueBloom(x, 4, 2, 6110);
        dueBloom(x, 8, 1, 99 * 520);
        dueBloom(x, 6, 3, 110 + 99 * 520 + 840);
        dueBloom(x, 0, 6, 12000 + 110 + 99 * 520 + 840);
        dueBloom(x, 1, 1, 1800);
        Due.due("24: status()", x.status(), 0);
        SweetLine y = Due.withBars(Due.RAW, 0, 0, 1);
        Due.setAll(y, 0, 2, 30, 18, 1, 0);
        dueBloom(y, 0, 1, 6000);
        dueBloom(y, 0, 2, 6200);
        Due.setAll(y, 0, 0, 30, 19);
        dueBloom(y, 0, 1, 6600);
        y.sheet(0, 2, 60);
        dueBloom(y, 20, 20, 0);
    }

    private static void bloomRefuses() {
        SweetLine x = Due.withBars(Due.PLAIN, 0, 0, 1);
        x.sheet(0, 0, 6);
        int[][] bad = {{-1, 0, 0, 1, 0}, {1, 0, 0, 1, 0}, {0, -1, 0, 1, 0}, {0, 8, 0, 1, 0}, {0, 0, 0, 0, 0},
            {0, 0, 0, 21, 0}, {0, 0, 0, -1, 0}, {0, 0, 0, 1, -1}, {0, 0, 0, 1, 2}, {0, 7, 0, 0, 0},
            {0, 0, 0, HIGH, 0}};
        for (int[] b : bad) {
            String call = "24: bloom(" + b[0] + ", " + b[1] + ", " + b[2] + ", " + b[3] + ", " + b[4] + ")";
            Due.due(call, x.bloom(b[0], b[1], b[2], b[3], b[4]), Due.BAD);
        }
        Due.due("24: status()", x.status(), 0);
        Due.due("24: bloom(0, 7, 0, 1, 0)", x.bloom(0, 7, 0, 1, 0), Due.NULL);
        Due.due("24: bloom(0, 7, -1, 1, 0), NULL ahead of PLACE", x.bloom(0, 7, -1, 1, 0), Due.NULL);
        Due.due("24: status()", x.status(), 1);
        int[][] places = {{-1, 1}, {5, 1}, {6, 1}, {0, 4}, {1, 3}, {LOW, 1}, {HIGH, 1}, {HIGH, 20}, {-2, 3}};
        for (int[] p : places) {
            Due.due("24: bloom(0, 0, " + p[0] + ", " + p[1] + ", 0)", x.bloom(0, 0, p[0], p[1], 0), Due.PLACE);
        }
        Due.due("24: status()", x.status(), 2);
        Due.due("24: bloom(0, 0, 0, 3, 0)", x.bloom(0, 0, 0, 3, 0), 0);
        Due.due("24: status()", x.status(), 0);
    }

    private static void bloomItems() {
        SweetLine x = Due.withBars(Due.PLAIN, 0, 0, 1);
        int[][] pairs = {{100, 0}, {-1, 0}, {0, 61}, {0, -1}, {HIGH, 0}, {0, LOW}};
        for (int[] p : pairs) {
            Due.setAll(x, 0, 2, 1, 1, p[0], p[1], 1, 1);
            x.set(0, 6, 0);
            for (int what = 0; what <= 1; what++) {
                Due.due("24: an ITEM of " + p[0] + ", " + p[1], x.bloom(0, 0, 0, 3, what), Due.BAD);
            }
            Due.due("24: status() stays with BAD", x.status(), 2);
            Due.due("24: a pair behind it", x.bloom(0, 0, 4, 1, 0), 100);
            x.set(0, 6, 0);
            Due.due("24: PLACE ahead of ITEMS", x.bloom(0, 0, 0, 4, 0), Due.PLACE);
        }
    }

    private static void dueOrders(SweetLine x, int i, int cost, int... row) {
        Due.due("25: orders(0, " + i + ", " + row.length + ", -1)", x.orders(0, i, row.length, -1), cost);
        for (int k = 0; k < row.length; k++) {
            Due.due("25: orders(0, " + i + ", " + row.length + ", " + k + ")", x.orders(0, i, row.length, k), row[k]);
        }
    }

    private static void orders() {
        SweetLine x = new SweetLine();
        Due.setAll(x, 0, 1, 0, 99, 999, 15, 1, 0);
        dueOrders(x, 0, 0, 0);
        dueOrders(x, 3, 1, 0);
        dueOrders(x, 0, 6, 1, 0);
        Due.due("25: status()", x.status(), 0);
        Due.setAll(x, 0, 1, 1, 5, 999, 0, 5, 999, 1, 5, 999);
        dueOrders(x, 0, 0, 1, 0, 2);
        Due.setAll(x, 0, 1, 1, 5, 5, 0, 5, 13, 2, 5, 999);
        dueOrders(x, 0, 5, 0, 1, 2);
        Due.setAll(x, 0, 1, 1, 5, 5, 0, 5, 12, 2, 5, 999);
        dueOrders(x, 0, 6, 0, 1, 2);
        Due.setAll(x, 0, 1, 3, 1, 999, 1, 1, 999, 2, 1, 999, 0, 1, 999);
        dueOrders(x, 0, 5, 1, 0, 3, 2);
        Due.setAll(x, 0, 1, 0, 3, 3, 0, 3, 3);
        dueOrders(x, 0, 3, 0, 1);
        Due.setAll(x, 0, 1, 7, 7, 7, 0, 4, 6, 0, 2, 2);
        dueOrders(x, 3, 0, 1, 0);
        x.sheet(0, 2, 60);
        Due.due("25: items of 0", x.orders(0, 39, 7, -1), Due.BAD);
        for (int k = 0; k < 7; k++) {
            x.set(0, 40 + 3 * k, 99);
            x.set(0, 41 + 3 * k, 999);
        }
        Due.due("25: seven at the end", x.orders(0, 39, 7, -1), 0);
    }

    /** Against all rows, one after another, each with its cost anew. */
    private static void ordersAreBest() {
        int seed = 12345;
        for (int run = 0; run < 60; run++) {
            int n = 1 + run % 6;
            int[] items = new int[3 * n];
            for (int k = 0; k < 3 * n; k++) {
                seed = seed * 1103515245 + 12345;
                int r = seed >>> 16;
                items[k] = k % 3 == 0 ? r % 16 : k % 3 == 1 ? 1 + r % 9 : r % (6 * n);
            }
            SweetLine x = new SweetLine();
            Due.setAll(x, 0, 2, items);
            int[] row = new int[n];
            for (int k = 0; k < n; k++) {
                row[k] = k;
            }
            int[] best = row.clone();
            do {
                if (cost(items, row) < cost(items, best)) {
                    best = row.clone();
                }
            } while (next(row));
            dueOrders(x, 0, cost(items, best), best);
        }
    }

    private static int cost(int[] items, int[] row) {
        int hour = 0;
        int cost = 0;
        for (int k = 0; k < row.length; k++) {
            if (k > 0 && (items[3 * row[k - 1]] | items[3 * row[k]]) != items[3 * row[k]]) {
                hour += 3;
                cost += 5;
            }
            hour += items[3 * row[k] + 1];
            cost += hour > items[3 * row[k] + 2] ? hour - items[3 * row[k] + 2] : 0;
        }
        return cost;
    }

    private static boolean next(int[] row) {
        int i = row.length - 2;
        while (i >= 0 && row[i] > row[i + 1]) {
            i--;
        }
        if (i < 0) {
            return false;
        }
        int j = row.length - 1;
        while (row[j] < row[i]) {
            j--;
        }
        swap(row, i, j);
        for (int a = i + 1, b = row.length - 1; a < b; a++, b--) {
            swap(row, a, b);
        }
        return true;
    }

    private static void swap(int[] row, int a, int b) {
        int was = row[a];
        row[a] = row[b];
        row[b] = was;
    }

    private static void ordersRefuse() {
        SweetLine x = new SweetLine();
        Due.setAll(x, 0, 0, 0, 1, 0, 0, 1, 0);
        int[][] bad = {{-1, 0, 1, 0}, {8, 0, 1, 0}, {0, 0, 0, -1}, {0, 0, 8, 0}, {0, 0, -1, -1}, {0, 0, 2, 2},
            {0, 0, 2, -2}, {7, 0, 2, 2}, {0, 0, HIGH, 0}, {0, 0, 1, LOW}};
        for (int[] b : bad) {
            String call = "25: orders(" + b[0] + ", " + b[1] + ", " + b[2] + ", " + b[3] + ")";
            Due.due(call, x.orders(b[0], b[1], b[2], b[3]), Due.BAD);
        }
        Due.due("25: status()", x.status(), 0);
        Due.due("25: orders(7, 0, 1, 0)", x.orders(7, 0, 1, 0), Due.NULL);
        Due.due("25: orders(7, -1, 1, 0), NULL ahead of PLACE", x.orders(7, -1, 1, 0), Due.NULL);
        Due.due("25: status()", x.status(), 1);
        int[][] places = {{-1, 1}, {4, 1}, {6, 1}, {0, 3}, {1, 2}, {LOW, 1}, {HIGH, 1}, {HIGH, 7}, {-3, 3}};
        for (int[] p : places) {
            Due.due("25: orders(0, " + p[0] + ", " + p[1] + ", 0)", x.orders(0, p[0], p[1], 0), Due.PLACE);
        }
        Due.due("25: status()", x.status(), 2);
        Due.due("25: orders(0, 0, 2, 1)", x.orders(0, 0, 2, 1), 1);
        Due.due("25: status()", x.status(), 0);
    }

    private static void orderItems() {
        SweetLine x = new SweetLine();
        int[][] items = {{16, 1, 0}, {-1, 1, 0}, {0, 0, 0}, {0, 100, 0}, {0, 1, -1}, {0, 1, 1000}, {LOW, 1, 0},
            {0, HIGH, 0}};
        for (int[] t : items) {
            Due.setAll(x, 0, 2, 15, 99, 999, t[0], t[1], t[2]);
            x.set(0, 6, 0);
            Due.due("25: ITEMS " + t[0] + ", " + t[1] + ", " + t[2], x.orders(0, 0, 2, -1), Due.BAD);
            Due.due("25: status() stays with BAD", x.status(), 2);
            Due.due("25: PLACE ahead of ITEMS", x.orders(0, 0, 3, -1), Due.PLACE);
            Due.due("25: the first alone", x.orders(0, 0, 1, -1), 0);
        }
    }
}
