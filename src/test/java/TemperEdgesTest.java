/** Promise 9, the edges: TEMPER, STATE and THICK over all warmths and seeds. */
public final class TemperEdgesTest {
    private static SweetLine line;
    private static String told = "";
    private static int made;

    public static void main(String[] args) {
        statesAndThick();
        oneMinute();
        towards();
        seedsPutIn();
        longest();
        arguments();
        changesNothing();
        Due.end();
    }

    /** An object has 512 calls; then there is another one. */
    private static int temper(String text, int warmth, int seeds, int what) {
        if (made >= 500 || !text.equals(told)) {
            line = Due.told(text);
            told = text;
            made = 0;
        }
        made++;
        return line.temper(0, warmth, seeds, what);
    }

    private static void statesAndThick() {
        for (int warmth = 0; warmth <= 60; warmth++) {
            for (int seeds : new int[] {0, 1, 9, 10, 11, 59, 60, 61, 998, 999}) {
                String from = " from " + warmth + " degrees, " + seeds + " seeds";
                boolean good = seeds >= 10 && seeds <= 60 && warmth >= 28 && warmth <= 33;
                int state = seeds < 10 ? 0 : good ? 1 : 2;
                int below = warmth < 34 ? 34 - warmth : 0;
                Due.due("9: warmth" + from, temper("recipe 0 0;", warmth, seeds, 0), warmth);
                Due.due("9: seeds" + from, temper("recipe 0 0;", warmth, seeds, 1), seeds);
                Due.due("9: STATE" + from, temper("recipe 0 0;", warmth, seeds, 2), state);
                Due.due("9: THICK" + from, temper("recipe 0 0;", warmth, seeds, 3), 100 + 3 * seeds + 10 * below);
            }
        }
    }

    /** Each warmth is kept for one minute, from all seeds: 26 and 27, 31 and 32, 34 and 35 differ. */
    private static void oneMinute() {
        for (int warmth : new int[] {0, 1, 25, 26, 27, 28, 30, 31, 32, 33, 34, 35, 36, 59, 60}) {
            String text = "recipe 0 0 warm " + warmth + " 1;";
            for (int seeds = 0; seeds <= 999; seeds++) {
                int want = seeds;
                if (warmth < 27) {
                    want = seeds + seeds / 5 + 1;
                } else if (warmth <= 31) {
                    want = seeds + seeds / 20;
                } else if (warmth >= 35) {
                    want = seeds - 3 * seeds / 10 - 1;
                }
                want = Math.max(0, Math.min(999, want));
                Due.due("9: a minute of " + warmth + ", seeds " + seeds, temper(text, warmth, seeds, 1), want);
            }
        }
    }

    /** One degree in a minute, not beyond the told one; seeds are changed by the new warmth. */
    private static void towards() {
        for (int from = 0; from <= 60; from++) {
            for (int minutes : new int[] {1, 2, 59, 60}) {
                for (int to : new int[] {0, 30, 60}) {
                    int way = Math.min(minutes, Math.abs(to - from));
                    int want = from < to ? from + way : from - way;
                    String text = "recipe 0 0 warm " + to + " " + minutes + ";";
                    Due.due("9: " + minutes + " minutes from " + from + " to " + to, temper(text, from, 0, 0), want);
                }
            }
        }
        Due.due("9: 27 to 26", temper("recipe 0 0 warm 0 1;", 27, 40, 1), 49);
        Due.due("9: 26 to 27", temper("recipe 0 0 warm 60 1;", 26, 40, 1), 42);
        Due.due("9: 31 to 32", temper("recipe 0 0 warm 60 1;", 31, 40, 1), 40);
        Due.due("9: 32 to 31", temper("recipe 0 0 warm 0 1;", 32, 40, 1), 42);
        Due.due("9: 34 to 35", temper("recipe 0 0 warm 60 1;", 34, 40, 1), 27);
        Due.due("9: 35 to 34", temper("recipe 0 0 warm 0 1;", 35, 40, 1), 40);
    }

    private static void seedsPutIn() {
        for (int seeds = 940; seeds <= 999; seeds++) {
            Due.due("9: 1 more, 999 at most", temper("recipe 0 0 seed 1;", 30, seeds, 1), Math.min(999, seeds + 1));
            Due.due("9: 50 more, 999 at most", temper("recipe 0 0 seed 50;", 30, seeds, 1), Math.min(999, seeds + 50));
        }
        Due.due("9: 999 at all times", temper("recipe 0 0 seed 50 warm 35 1;", 35, 999, 1), 999 - 299 - 1);
        Due.due("9: 0 at all times", temper("recipe 0 0 warm 60 9 seed 7;", 60, 3, 1), 7);
        Due.due("9: a stage of seeds keeps the warmth", temper("recipe 0 0 seed 50;", 60, 0, 0), 60);
    }

    private static void longest() {
        String six = " warm 0 60".repeat(6);
        Due.due("9: 360 minutes of cold", temper("recipe 0 0" + six + ";", 60, 0, 1), 999);
        Due.due("9: its warmth", temper("recipe 0 0" + six + ";", 60, 0, 0), 0);
        Due.due("9: its STATE", temper("recipe 0 0" + six + ";", 60, 0, 2), 2);
        Due.due("9: its THICK", temper("recipe 0 0" + six + ";", 60, 0, 3), 3437);
        String hot = " warm 60 60".repeat(6);
        Due.due("9: 360 minutes of heat", temper("recipe 0 0" + hot + ";", 0, 999, 1), 0);
        Due.due("9: its warmth", temper("recipe 0 0" + hot + ";", 0, 999, 0), 60);
    }

    private static void arguments() {
        SweetLine x = Due.told("recipe 0 0;recipe 0 0;");
        Due.due("9: temper(1, 60, 999, 3)", x.temper(1, 60, 999, 3), 3097);
        Due.due("9: temper(1, 0, 0, 3)", x.temper(1, 0, 0, 3), 440);
        for (int recipe : Due.outside(0, 1)) {
            Due.due("9: RECIPE " + recipe, x.temper(recipe, 0, 0, 0), Due.BAD);
        }
        for (int warmth : Due.outside(0, 60)) {
            Due.due("9: warmth " + warmth, x.temper(0, warmth, 0, 0), Due.BAD);
        }
        for (int seeds : Due.outside(0, 999)) {
            Due.due("9: seeds " + seeds, x.temper(0, 0, seeds, 0), Due.BAD);
        }
        for (int what : Due.outside(0, 3)) {
            Due.due("9: what " + what, x.temper(0, 0, 0, what), Due.BAD);
        }
    }

    private static void changesNothing() {
        SweetLine x = Due.told(Due.GOOD);
        x.fill(0, 0, 50, 0, 0);
        x.temper(0, 60, 999, 0);
        Due.due("9: no TANK's warmth is changed", x.tank(0, 4), 45);
        Due.due("9: no TANK's seeds are changed", x.tank(0, 5), 0);
        Due.due("9: each begins anew", x.temper(0, 45, 0, 1), 20);
        Due.due("9: each begins anew", x.temper(0, 45, 0, 1), 20);
    }
}
