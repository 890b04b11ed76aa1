import java.util.LinkedHashMap;
import java.util.Map;

/**
 * All that can be seen of an object behind a run, but status(): each part on an object of its own,
 * since looking at some things changes them, and since an object has 512 calls.
 */
final class Seen {
    private static final int CALLS = 512;

    private final Run run;
    private final Map<String, Integer> answers = new LinkedHashMap<>();
    private SweetLine x;
    private String part;
    private int made;

    private Seen(Run run) {
        this.run = run;
    }

    static Map<String, Integer> of(Run run) {
        Seen seen = new Seen(run);
        seen.numbers();
        seen.bars();
        seen.asks();
        seen.gears();
        seen.recipes();
        seen.tape("");
        seen.tape(" 0 0;");
        seen.whatComes();
        seen.corrections();
        for (int lot = 0; lot <= 9; lot++) {
            seen.lot(lot);
        }
        for (int recipe = 0; recipe < 6; recipe++) {
            seen.rework(recipe);
        }
        for (int sheet = 0; sheet < 8; sheet++) {
            seen.sheet(sheet);
        }
        return seen.answers;
    }

    private void begin(String name) {
        x = run.play();
        part = name;
        made = run.size();
    }

    private int look(String name, long... a) {
        made++;
        if (made > CALLS) {
            throw new IllegalStateException("more than " + CALLS + " calls in " + part);
        }
        int answer = Run.make(x, name, a);
        answers.put(part + ", call " + (made - run.size()) + ": " + Run.told(name, a), answer);
        return answer;
    }

    private void numbers() {
        begin("numbers");
        look("fault");
        for (int i = 0; i <= 7; i++) {
            look("count", i);
            look("trace", i);
        }
        for (int what = 0; what <= 5; what++) {
            look("grams", what);
            look("bin", what);
        }
        for (int tank = 0; tank < 4; tank++) {
            for (int what = 0; what <= 6; what++) {
                look("tank", tank, what);
            }
        }
        for (int station = 0; station < 15; station++) {
            for (int what = 0; what <= 5; what++) {
                look("mould", station, what);
            }
        }
    }

    private void bars() {
        begin("bars");
        for (int bar = 0; bar < 40; bar++) {
            for (int what = 0; what <= 6; what++) {
                look("bar", bar, what);
            }
            look("kind", bar);
        }
    }

    private void asks() {
        begin("asks");
        for (int bar = 0; bar < 40; bar++) {
            look("ask", bar, 0);
            look("ask", bar, 1);
        }
    }

    private void gears() {
        begin("gears");
        int[] first = {50, 0, 0, 3, 3, 3, 3, 3, 3, 3, 3, 3, 3, 0, 0};
        for (int what = 0; what < first.length; what++) {
            look("gear", what, first[what]);
        }
        look("belt", 8);
    }

    private void recipes() {
        begin("recipes");
        int[][] from = {{0, 0}, {45, 0}, {30, 20}, {60, 999}};
        for (int recipe = 0; recipe < 6; recipe++) {
            for (int[] f : from) {
                look("temper", recipe, f[0], f[1], 0);
                look("temper", recipe, f[0], f[1], 1);
            }
        }
    }

    private void tape(String end) {
        begin("tape'" + end + "'");
        for (int i = 0; i < end.length(); i++) {
            look("feed", end.charAt(i), 1);
        }
        look("recipes");
        look("fault");
    }

    private void whatComes() {
        begin("what comes");
        for (int k = 0; k < 12; k++) {
            look("beat", 1);
            look("mould", 0, 0);
            look("mould", 0, 5);
            look("count", 4);
        }
        look("gear", 14, 0);
        look("beat", 40);
        look("grams", 3);
        look("grams", 5);
    }

    private void corrections() {
        begin("corrections");
        for (int target = 40; target <= 60; target++) {
            look("gear", 0, target);
            look("correct");
        }
    }

    /** Whether a lot was called back is seen on a bar that comes with it. */
    private void lot(int lot) {
        begin("lot " + lot);
        look("drain", 0);
        look("gear", 0, 10);
        look("gear", 2, 0);
        for (int station = 3; station <= 12; station++) {
            look("gear", station, 9);
        }
        look("fill", 0, 0, 100, 0, lot);
        look("beat", 60);
        look("count", 6);
    }

    /** The share of a recipe is seen by how much of its bin may come to a tank. */
    private void rework(int recipe) {
        begin("rework " + recipe);
        look("drain", 3);
        for (int rework = 52; rework >= 0; rework -= 2) {
            look("fill", 3, recipe, 100, rework, 0);
        }
    }

    /** ITEMS of 1 to 99 are seen as the hours of an order that is late by all of them. */
    private void sheet(int sheet) {
        begin("sheet " + sheet);
        int other = sheet == 0 ? 1 : 0;
        for (int lane = 2; lane >= 0; lane--) {
            look("sheet", other, lane, 3);
            for (int i = 0; i < 60 && look("copy", sheet, i, other, 1, 1) == 1; i++) {
                look("orders", other, 0, 1, -1);
            }
        }
        look("drop", sheet);
    }
}
