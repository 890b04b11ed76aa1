/** Promises 6 to 9: feed, recipes, fault, temper. */
public final class RecipesTest {
    public static void main(String[] args) {
        feed();
        reads();
        faults();
        ends();
        limits();
        temper();
        temperRefuses();
        Due.end();
    }

    private static void feed() {
        SweetLine x = new SweetLine();
        Due.due("6: feed(0, 0)", x.feed(0, 0), Due.BAD);
        Due.due("6: feed(0, 9)", x.feed(0, 9), Due.BAD);
        Due.due("6: feed(0, -1)", x.feed(0, -1), Due.BAD);
        Due.due("6: feed(.., 1)", x.feed(32, 1), 1);
        for (int k = 1; k <= 49; k++) {
            Due.due("6: feed(.., 8)", x.feed(0x2020202020202020L, 8), 1 + 8 * k);
        }
        Due.due("6: feed of 8 to 393", x.feed(0x2020202020202020L, 8), Due.FULL);
        Due.due("6: count(7)", x.count(7), 393);
        Due.due("6: feed of 7 to 393", x.feed(0x2020202020202020L, 7), 400);
        Due.due("6: feed of 1 to 400", x.feed(32, 1), Due.FULL);
        Due.due("6: feed of 9 to 400, BAD ahead of FULL", x.feed(32, 9), Due.BAD);
        Due.due("6: count(7)", x.count(7), 400);
        Due.due("6: recipes() of gaps", x.recipes(), 0);
        Due.due("6: count(7) behind it", x.count(7), 0);
        long recipe = 0x7265636970652030L;
        Due.due("6: the highest of the lowest bytes first", x.feed(recipe, 8), 8);
        Due.due("6: bytes above the lowest do not count", x.feed(0x787878782030203bL, 4), 12);
        Due.due("6: recipes()", x.recipes(), 1);
    }

    private static void dueRead(String text, int want) {
        SweetLine x = new SweetLine();
        Due.feedText(x, text);
        Due.due("7: recipes() of '" + text + "'", x.recipes(), want);
        Due.due("7: the tape is empty then", x.count(7), 0);
        Due.due("7: count(1)", x.count(1), Math.max(0, want));
        Due.due("8: fault()", x.fault(), 0);
    }

    private static void reads() {
        dueRead("", 0);
        dueRead(" \n ", 0);
        dueRead("recipe 0 0;", 1);
        dueRead("recipe 15 50;", 1);
        dueRead("recipe0 0;recipe0\n0\n;", 2);
        dueRead("\nrecipe 0015 0050 warm 0060 0060 seed 0050 ; ", 1);
        dueRead("recipe 1 2 warm 0 1 seed 1 warm 60 60 seed 50 warm 1 1 seed 1;", 1);
        dueRead("recipe 0 0warm1 1seed1;", 1);
        SweetLine x = Due.told(Due.GOOD);
        Due.feedText(x, Due.RAW);
        Due.due("7: recipes() behind those there are", x.recipes(), 2);
        Due.due("7: the first is as it was", x.temper(0, 45, 0, 1), 20);
        Due.due("7: the second is behind it", x.temper(1, 45, 0, 0), 45);
    }

    private static void dueFault(String text, int place, int number) {
        SweetLine x = Due.told(Due.RAW);
        Due.feedText(x, text);
        Due.due("7: recipes() of '" + text + "'", x.recipes(), -1000100 - place);
        Due.due("8: fault() of '" + text + "'", x.fault(), number);
        Due.due("7: none comes: count(1)", x.count(1), 1);
        Due.due("7: the tape is empty then", x.count(7), 0);
        Due.due("8: recipes() without a fault", x.recipes(), 1);
        Due.due("8: fault() is that of the latest", x.fault(), number);
    }

    private static void faults() {
        dueFault("x", 0, 1);
        dueFault(" 5", 1, 1);
        dueFault(";", 0, 1);
        dueFault("recip 0 0;", 0, 1);
        dueFault("recipes 0 0;", 0, 1);
        dueFault("recipea 0 0;", 0, 1);
        dueFault("recipez 0 0;", 0, 1);
        dueFault("decipe 0 0;", 0, 1);
        dueFault("recipd 0 0;", 0, 1);
        dueFault("RECIPE 0 0;", 0, 1);
        dueFault("recipe", 6, 1);
        dueFault("recipe ", 7, 1);
        dueFault("recipe x 0;", 7, 1);
        dueFault("recipe ;", 7, 1);
        dueFault("recipe 16 0;", 7, 2);
        dueFault("recipe 9999 0;", 7, 2);
        dueFault("recipe 00001 0;", 7, 1);
        dueFault("recipe 12345678901 0;", 7, 1);
        dueFault("recipe 0 51;", 9, 2);
        dueFault("recipe 0 ;", 9, 1);
        dueFault("recipe 0 0", 10, 1);
        dueFault("recipe 0 0 ", 11, 1);
        dueFault("recipe 0 0 0;", 11, 1);
        dueFault("recipe 0 0 recipe 0 0;", 11, 1);
        dueFault("recipe 0 0 warms 0 1;", 11, 1);
        dueFault("recipe 0 0 warm 61 1;", 16, 2);
        dueFault("recipe 0 0 warm 60 0;", 19, 2);
        dueFault("recipe 0 0 warm 60 61;", 19, 2);
        dueFault("recipe 0 0 warm 60;", 18, 1);
        dueFault("recipe 0 0 seed 0;", 16, 2);
        dueFault("recipe 0 0 seed 51;", 16, 2);
        dueFault("recipe 0 0 seed;", 15, 1);
        dueFault("recipe 0 0 seed 5 5;", 18, 1);
        dueFault("recipe 0 0; recipe 0 0 A", 23, 1);
        dueFault("recipe 0 0;\t", 11, 1);
        dueFault("recipe 0 0;" + (char) 0, 11, 1);
        dueFault("recipe 0 0;" + (char) 228, 11, 1);
        dueFault("recipe 0 0;" + (char) 160, 11, 1);
        dueFault("recipe -1 0;", 7, 1);
        dueFault("recipe 0 0 seed 5;;", 18, 1);
        dueFault("recipe 16 x \t", 7, 2);
        dueFault("recipe 0 0 seed 1 seed 1 seed 1 seed 1 seed 1 seed 1 seed 1;", 53, 3);
        dueFault("recipe 0 0 seed 1 seed 1 seed 1 seed 1 seed 1 seed 1 warm x;", 53, 3);
        dueFault("recipe 0 0 seed 1 seed 1 seed 1 seed 1 seed 1 seed 1 sed 1;", 53, 1);
        dueFault("recipe 0 0 seed 1 seed 1 seed 1 seed 1 seed 1 seed 1 1;", 53, 1);
    }

    private static void dueFaultOn(SweetLine x, String text, int place, int number) {
        Due.feedText(x, text);
        Due.due("7: recipes() of '" + text + "'", x.recipes(), -1000100 - place);
        Due.due("8: fault() of '" + text + "'", x.fault(), number);
    }

    /** What was on the tape before is not read again, and a full tape ends where it ends. */
    private static void ends() {
        SweetLine x = Due.told("recipe 12 34 warm 33 30 seed 44;");
        dueFaultOn(x, "recip", 0, 1);
        dueFaultOn(x, "recipe 1", 8, 1);
        dueFaultOn(x, "recipe 12 3", 11, 1);
        dueFaultOn(x, "recipe 12 34 war", 13, 1);
        Due.due("7: none came", x.count(1), 1);
        String gap = " ".repeat(392);
        dueFaultOn(x, gap + "recipe 1", 400, 1);
        dueFaultOn(x, gap + "abcdefgh", 392, 1);
        dueFaultOn(x, gap + "recipe 9".substring(0, 6) + "  ", 400, 1);
        dueFaultOn(x, " ".repeat(393) + "recipe;", 399, 1);
        Due.feedText(x, " ".repeat(389) + "recipe 0 0;");
        Due.due("7: to the last of 400 bytes", x.recipes(), 2);
        x = Due.told("recipe 0 0 seed 5 seed 5 seed 5 seed 5;");
        dueFaultOn(x, "recipe 0 0 seed 9 seed 9 seed 9 x", 32, 1);
        Due.feedText(x, "recipe 0 0 seed 7;");
        Due.due("7: behind a text with a fault", x.recipes(), 2);
        Due.due("7: its stages alone", x.temper(1, 30, 0, 1), 7);
    }

    private static void limits() {
        SweetLine x = Due.told("recipe 0 0;recipe 0 0;recipe 0 0;recipe 0 0;");
        Due.feedText(x, "recipe 0 0;recipe 0 0;recipe 0 0;");
        Due.due("7: the 7th in all", x.recipes(), -1000122);
        Due.due("8: fault()", x.fault(), 3);
        Due.due("7: none comes", x.count(1), 4);
        Due.feedText(x, "recipe 0 0;recipe 0 0;");
        Due.due("7: the 6th", x.recipes(), 6);
        Due.feedText(x, " recipe 99 0;");
        Due.due("7: the 7th, its first word", x.recipes(), -1000101);
        Due.due("8: fault()", x.fault(), 3);
        Due.feedText(x, " recipy 99 0;");
        Due.due("7: no recipe at all", x.recipes(), -1000101);
        Due.due("8: fault()", x.fault(), 1);
        Due.due("7: of nothing", x.recipes(), 6);
        SweetLine y = Due.told("recipe 0 0;recipe 0 0;recipe 0 0;recipe 0 0;recipe 0 0;recipe 0 0;");
        Due.due("7: six at once", y.count(1), 6);
    }

    private static void dueTemper(String text, int warmth, int seeds, int... want) {
        SweetLine x = Due.told(text);
        for (int what = 0; what < want.length; what++) {
            String call = "9: temper(0, " + warmth + ", " + seeds + ", " + what + ") of '" + text + "'";
            Due.due(call, x.temper(0, warmth, seeds, what), want[what]);
        }
    }

    private static void temper() {
        dueTemper("recipe 0 0;", 0, 0, 0, 0, 0, 440);
        dueTemper("recipe 0 0;", 60, 999, 60, 999, 2, 3097);
        dueTemper("recipe 0 0;", 28, 9, 28, 9, 0, 187);
        dueTemper("recipe 0 0;", 28, 10, 28, 10, 1, 190);
        dueTemper("recipe 0 0;", 27, 10, 27, 10, 2, 200);
        dueTemper("recipe 0 0;", 33, 60, 33, 60, 1, 290);
        dueTemper("recipe 0 0;", 33, 61, 33, 61, 2, 293);
        dueTemper("recipe 0 0;", 34, 60, 34, 60, 2, 280);
        dueTemper("recipe 0 0;", 35, 60, 35, 60, 2, 280);
        dueTemper("recipe 0 0 warm 26 1;", 26, 9, 26, 11);
        dueTemper("recipe 0 0 warm 26 1;", 27, 9, 26, 11);
        dueTemper("recipe 0 0 warm 60 1;", 26, 39, 27, 40);
        dueTemper("recipe 0 0 warm 27 1;", 27, 19, 27, 19);
        dueTemper("recipe 0 0 warm 31 1;", 31, 20, 31, 21);
        dueTemper("recipe 0 0 warm 32 1;", 32, 200, 32, 200);
        dueTemper("recipe 0 0 warm 34 1;", 34, 200, 34, 200);
        dueTemper("recipe 0 0 warm 35 1;", 35, 13, 35, 9);
        dueTemper("recipe 0 0 warm 0 1;", 36, 13, 35, 9);
        dueTemper("recipe 0 0 warm 35 1;", 35, 0, 35, 0);
        dueTemper("recipe 0 0 warm 35 1;", 35, 1, 35, 0);
        dueTemper("recipe 0 0 warm 20 1;", 20, 999, 20, 999);
        dueTemper("recipe 0 0 warm 20 1;", 20, 832, 20, 999);
        dueTemper("recipe 0 0 warm 20 1;", 20, 831, 20, 998);
        dueTemper("recipe 0 0 warm 0 60;", 60, 0, 0, 443);
        dueTemper("recipe 0 0 warm 30 2;", 33, 100, 31, 105);
        dueTemper("recipe 0 0 warm 30 1;", 30, 900, 30, 945);
        dueTemper("recipe 0 0 warm 30 1;", 30, 919, 30, 964);
        dueTemper("recipe 0 0 warm 30 1;", 30, 951, 30, 998);
        dueTemper("recipe 0 0 warm 30 1;", 30, 952, 30, 999);
        dueTemper("recipe 0 0 warm 30 1;", 30, 980, 30, 999);
        dueTemper("recipe 0 0 warm 60 1;", 60, 999, 60, 699);
        dueTemper("recipe 0 0 warm 60 1;", 60, 990, 60, 692);
        dueTemper("recipe 0 0 warm 60 1;", 60, 980, 60, 685);
        dueTemper("recipe 0 0 warm 0 1;", 0, 700, 0, 841);
        dueTemper("recipe 0 0 warm 0 1;", 0, 704, 0, 845);
        dueTemper("recipe 0 0 seed 1 seed 2 seed 3 seed 4 seed 5 seed 6;", 30, 0, 30, 21);
        dueTemper("recipe 0 0 warm 30 9;", 30, 0, 30, 0);
        dueTemper("recipe 0 0 seed 50 seed 50;", 30, 0, 30, 100);
        dueTemper("recipe 0 0 seed 50 seed 50;", 30, 898, 30, 998);
        dueTemper("recipe 0 0 seed 50 seed 50;", 30, 900, 30, 999);
        dueTemper("recipe 0 0 seed 10 warm 40 2;", 39, 0, 40, 4);
        dueTemper("recipe 0 0 warm 40 2 seed 10;", 39, 0, 40, 10);
        dueTemper(Due.GOOD, 45, 0, 31, 20, 1, 190);
    }

    private static void temperRefuses() {
        SweetLine x = Due.told(Due.RAW);
        int[][] bad = {{1, 0, 0, 0}, {-1, 0, 0, 0}, {6, 0, 0, 0}, {0, -1, 0, 0}, {0, 61, 0, 0}, {0, 0, -1, 0},
            {0, 0, 1000, 0}, {0, 0, 0, -1}, {0, 0, 0, 4}};
        for (int[] b : bad) {
            String call = "9: temper(" + b[0] + ", " + b[1] + ", " + b[2] + ", " + b[3] + ")";
            Due.due(call, x.temper(b[0], b[1], b[2], b[3]), Due.BAD);
        }
    }
}
