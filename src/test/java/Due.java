/** What the tests share: comparing answers, and lines that are ready for use. */
final class Due {
    static final int NONE = -1000000, BAD = -1000001, STATE = -1000002, FULL = -1000003;
    static final int NULL = -1000011, PLACE = -1000012, KIND = -1000013, SIZE = -1000014, STORE = -1000015;

    /** Ends as good chocolate (31 degrees, 20 seeds), has nuts, and may have 20 by 100 of rework. */
    static final String GOOD = "recipe 1 20 warm 31 20 seed 20;";
    /** As GOOD, but without allergens, and without rework. */
    static final String PLAIN = "recipe 0 0 warm 31 20 seed 20;";
    /** Without stages: raw for ever; may have 50 by 100 of rework. */
    static final String RAW = "recipe 0 50;";

    private static int wrong = 0;
    private static int asked = 0;

    private Due() {
    }

    static void due(String call, long got, long want) {
        asked++;
        if (got != want) {
            wrong++;
            System.out.println(call + " answered " + got + ", due is " + want);
        }
    }

    static void end() {
        System.out.println(asked + " answers, " + wrong + " not as due");
        if (wrong != 0) {
            System.exit(1);
        }
    }

    /** Numbers that are not of least to most: just outside, the ends of int, and what wraps into it. */
    static int[] outside(int least, int most) {
        int[] all = {least - 1, most + 1, Integer.MIN_VALUE, Integer.MAX_VALUE, least + 256, most - 256, least + 65536,
            most - 65536, least + (1 << 30), least + (1 << 31), most + (1 << 31)};
        return java.util.Arrays.stream(all).filter(v -> v < least || v > most).toArray();
    }

    static int feedText(SweetLine x, String text) {
        int length = x.count(7);
        for (int i = 0; i < text.length(); i += 8) {
            int n = Math.min(8, text.length() - i);
            long w = 0;
            for (int k = 0; k < n; k++) {
                w = w << 8 | text.charAt(i + k) & 255;
            }
            length = x.feed(w, n);
        }
        return length;
    }

    static SweetLine told(String text) {
        SweetLine x = new SweetLine();
        feedText(x, text);
        x.recipes();
        return x;
    }

    /** A line whose moulds are cold enough to be turned out in their first round. */
    static SweetLine cold(String text) {
        SweetLine x = told(text);
        for (int station = 3; station <= 12; station++) {
            x.gear(station, 9);
        }
        return x;
    }

    /** A cold line with so many bars, all of them out of TANK 0 with RECIPE 0 and LOT lot. */
    static SweetLine withBars(String text, int filling, int lot, int bars) {
        SweetLine x = cold(text);
        x.gear(1, filling);
        x.fill(0, 0, 20000, 0, lot);
        x.ready(0);
        x.beat(6 + bars);
        return x;
    }

    static void setAll(SweetLine x, int sheet, int lane, int... items) {
        x.sheet(sheet, lane, items.length);
        for (int i = 0; i < items.length; i++) {
            due("set(" + sheet + ", " + i + ", " + items[i] + ")", x.set(sheet, i, items[i]), items[i]);
        }
    }
}
