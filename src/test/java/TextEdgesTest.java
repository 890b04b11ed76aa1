import java.util.Map;

/** Promises 6 to 8, the edges: each sentence of TEXTS and FAULTS that names one. */
public final class TextEdgesTest {
    private static final String WHOLE = "recipe 1 2 warm 30 4 seed 5;";

    public static void main(String[] args) {
        tapeIsFull();
        lowestBytes();
        wildWords();
        everyByte();
        figures();
        gaps();
        prefixes();
        ranges();
        stages();
        sixAtMost();
        whenAllIsRead();
        onlyTheTapeChanges();
        leastOfOneToken();
        latestFault();
        Due.end();
    }

    private static void dueRead(String promise, String text, int had, int want) {
        SweetLine x = Due.told("recipe 0 0;".repeat(had));
        Due.feedText(x, text);
        Due.due(promise + ": '" + text + "' behind " + had, x.recipes(), want);
        Due.due("7: the tape is empty then", x.count(7), 0);
        Due.due("7: count(1)", x.count(1), want);
        Due.due("8: fault()", x.fault(), 0);
    }

    private static void dueFault(String promise, String text, int had, int place, int number) {
        SweetLine x = Due.told("recipe 0 0;".repeat(had));
        Due.feedText(x, text);
        Due.due(promise + ": '" + text + "' behind " + had, x.recipes(), -1000100 - place);
        Due.due(promise + ": fault() of '" + text + "'", x.fault(), number);
        Due.due("7: the tape is empty then", x.count(7), 0);
        Due.due("7: none comes", x.count(1), had);
        Due.due("7: none can be used", x.temper(had, 0, 0, 0), Due.BAD);
    }

    /** 400 bytes at most: for each n the last that fits, and the first that does not. */
    private static void tapeIsFull() {
        for (int n = 1; n <= 8; n++) {
            SweetLine x = new SweetLine();
            Due.feedText(x, " ".repeat(400 - n - 7) + "recipe ");
            Due.due("6: " + n + " bytes to 400", x.feed(0x2020202020202020L, n), 400);
            Due.due("6: the end is how many bytes there are", x.recipes(), -1000500);
            x = new SweetLine();
            Due.feedText(x, " ".repeat(401 - n - 7) + "recipe ");
            Due.due("6: FULL, " + n + " bytes to 401", x.feed(0x3b3b3b3b3b3b3b3bL, n), Due.FULL);
            Due.due("6: none comes", x.count(7), 401 - n);
            Due.due("6: what was there is read", x.recipes(), -1000501 + n);
            Due.due("6: an empty tape has room", x.feed(0x3b, n), n);
        }
    }

    /** Whatever stands above the lowest n bytes of w, only those come, the highest first. */
    private static void lowestBytes() {
        long[] above = {0, -1, Long.MIN_VALUE, Long.MAX_VALUE, 0x3b3b3b3b3b3b3b3bL};
        for (int n = 1; n <= 8; n++) {
            for (long a : above) {
                SweetLine x = new SweetLine();
                String text = "recipe 12 34 seed 5;";
                for (int i = 0; i < text.length(); i += n) {
                    int few = Math.min(n, text.length() - i);
                    long w = a;
                    for (int k = 0; k < few; k++) {
                        w = w << 8 | text.charAt(i + k);
                    }
                    Due.due("6: how many it has", x.feed(w, few), i + few);
                }
                Due.due("6: in portions of " + n + " below " + Long.toHexString(a), x.recipes(), 1);
                Due.due("6: as it was told", x.temper(0, 30, 0, 1), 5);
            }
        }
    }

    private static void wildWords() {
        for (long w : new long[] {Long.MIN_VALUE, Long.MAX_VALUE, -1, 0}) {
            for (int n = 1; n <= 8; n++) {
                SweetLine x = new SweetLine();
                Due.due("6: feed(" + w + ", " + n + ")", x.feed(w, n), n);
                Due.due("7: bytes that are no TOKEN", x.recipes(), -1000100);
                Due.due("8: fault()", x.fault(), 1);
            }
        }
        SweetLine x = new SweetLine();
        x.feed(0x2020202020202020L, 8);
        x.feed(Long.MIN_VALUE, 7);
        Due.due("7: byte 0 is no gap", x.recipes(), -1000108);
    }

    /** Behind 'recipe', and at the end, each of the 256 bytes is just what it is told to be. */
    private static void everyByte() {
        for (int b = 0; b < 256; b++) {
            String text = "recipe" + (char) b + "5 0;";
            if (b == 32 || b == 10 || b == '0' || b == '1') {
                dueRead("7: byte " + b, text, 0, 1);
            } else if (b >= '2' && b <= '9') {
                dueFault("8: byte " + b, text, 0, 6, 2);
            } else if (b >= 'a' && b <= 'z') {
                dueFault("8: byte " + b, text, 0, 0, 1);
            } else {
                dueFault("8: byte " + b, text, 0, 6, 1);
            }
            if (b == 32 || b == 10) {
                dueRead("7: byte " + b, "recipe 0 0;" + (char) b, 0, 1);
                dueRead("7: byte " + b, (char) b + "recipe 0 0;", 0, 1);
            } else {
                dueFault("8: byte " + b, "recipe 0 0;" + (char) b, 0, 11, 1);
            }
            if (b == ';') {
                dueRead("7: byte " + b, "recipe 0 0" + (char) b, 0, 1);
            }
        }
    }

    private static void figures() {
        dueRead("7: 4 figures", "recipe 0001 0050;", 0, 1);
        dueRead("7: 4 figures of 0", "recipe 0000 0000 warm 0000 0001;", 0, 1);
        dueFault("8: 4 figures above", "recipe 0016 0;", 0, 7, 2);
        dueFault("8: 9999", "recipe 9999 0;", 0, 7, 2);
        dueFault("8: 5 figures", "recipe 00000 0;", 0, 7, 1);
        dueFault("8: 5 figures", "recipe 0 00001;", 0, 9, 1);
        dueFault("8: 5 figures", "recipe 0 0 warm 00001 1;", 0, 16, 1);
        dueFault("8: 5 figures", "recipe 0 0 warm 1 00001;", 0, 18, 1);
        dueFault("8: 5 figures", "recipe 0 0 seed 00001;", 0, 16, 1);
        dueFault("8: figures that wrap to 0 as an int", "recipe 4294967296 0;", 0, 7, 1);
        dueFault("8: figures that wrap to 0 as a long", "recipe 18446744073709551616 0;", 0, 7, 1);
        dueFault("8: 380 figures", "recipe " + "0".repeat(380) + " 0;", 0, 7, 1);
        dueFault("8: 5 figures where no NUMBER can stand", "00001", 0, 0, 1);
    }

    private static void gaps() {
        dueRead("7: nothing", "", 0, 0);
        dueRead("7: gaps alone", " \n\n  ", 0, 0);
        dueRead("7: nothing behind six", "", 6, 6);
        dueRead("7: gaps behind six", " ", 6, 6);
        dueRead("7: gaps before and behind", "\n " + WHOLE + " \n", 0, 1);
        dueRead("7: no gaps but where they part", "recipe1 2warm30 4seed5;recipe1 2;", 0, 2);
        dueRead("7: many gaps", WHOLE.replace(" ", "\n  \n"), 0, 1);
        dueFault("8: gaps part NAMES", "rec ipe 0 0;", 0, 0, 1);
        dueFault("8: gaps part NUMBERS", "recipe 0 0 0;", 0, 11, 1);
        dueFault("8: the end behind gaps", "recipe  \n", 0, 9, 1);
    }

    /** How far a text that ends too early is right: to the NAME that is cut, else to its end. */
    private static void prefixes() {
        for (int length = 1; length < WHOLE.length(); length++) {
            int place = length;
            if (length < 6) {
                place = 0;
            } else if (length > 11 && length < 15) {
                place = 11;
            } else if (length > 21 && length < 25) {
                place = 21;
            }
            dueFault("8: cut", WHOLE.substring(0, length), 0, place, 1);
            dueFault("8: cut", WHOLE + WHOLE.substring(0, length), 0, WHOLE.length() + place, 1);
        }
        dueRead("7: not cut", WHOLE, 0, 1);
        dueRead("7: not cut", WHOLE + WHOLE, 0, 2);
    }

    private static void dueRange(String before, String behind, int least, int most) {
        int place = before.length();
        dueRead("7: the least", before + least + behind, 0, 1);
        dueRead("7: the most", before + most + behind, 0, 1);
        dueFault("8: one above", before + (most + 1) + behind, 0, place, 2);
        dueFault("8: the most of 4 figures", before + 9999 + behind, 0, place, 2);
        dueFault("8: 256 above", before + (least + 256) + behind, 0, place, 2);
        if (least > 0) {
            dueFault("8: one below", before + (least - 1) + behind, 0, place, 2);
        } else {
            dueFault("8: a sign", before + "-1" + behind, 0, place, 1);
        }
    }

    private static void ranges() {
        dueRange("recipe ", " 0;", 0, 15);
        dueRange("recipe 0 ", ";", 0, 50);
        dueRange("recipe 0 0 warm 30 ", ";", 1, 60);
        dueRange("recipe 0 0 seed ", ";", 1, 50);
        dueRead("7: warm 0", "recipe 0 0 warm 0 1;", 0, 1);
        dueRead("7: warm 60", "recipe 0 0 warm 60 1;", 0, 1);
        dueFault("8: warm 61", "recipe 0 0 warm 61 1;", 0, 16, 2);
        dueFault("8: warm 256", "recipe 0 0 warm 256 1;", 0, 16, 2);
        dueFault("8: a RECIPE without NUMBERS", "recipe ;", 0, 7, 1);
        dueFault("8: a RECIPE without its share", "recipe 0 ;", 0, 9, 1);
        dueFault("8: seed without how many", "recipe 0 0 seed ;", 0, 16, 1);
        dueFault("8: warm without minutes", "recipe 0 0 warm 60;", 0, 18, 1);
        dueFault("8: warm without degrees", "recipe 0 0 warm ;", 0, 16, 1);
    }

    private static void stages() {
        for (String stage : new String[] {" warm 9 1", " seed 1"}) {
            for (int n = 0; n <= 6; n++) {
                dueRead("7: " + n + " stages", "recipe 0 0" + stage.repeat(n) + ";", 0, 1);
            }
            int place = 10 + 6 * stage.length() + 1;
            dueFault("8: the 7th stage", "recipe 0 0" + stage.repeat(7) + ";", 0, place, 3);
            dueFault("8: the 7th stage, without its NUMBER", "recipe 0 0" + stage.repeat(6) + " seed", 0, place, 3);
            dueFault("8: no stage there", "recipe 0 0" + stage.repeat(6) + " recipe", 0, place, 1);
            dueFault("8: the end there", "recipe 0 0" + stage.repeat(6) + " ", 0, place, 1);
        }
        SweetLine x = Due.told("recipe 0 0" + " seed 1".repeat(5) + " seed 50;recipe 0 0 seed 3;");
        Due.due("7: all six stages count", x.temper(0, 30, 0, 1), 55);
        Due.due("7: each RECIPE has its own", x.temper(1, 30, 0, 1), 3);
    }

    /** Six in all, however many texts they came in. */
    private static void sixAtMost() {
        for (int had = 0; had <= 6; had++) {
            for (int more = 0; had + more <= 6; more++) {
                dueRead("7: " + more + " more", "recipe 0 0;".repeat(more), had, had + more);
            }
            String six = "recipe 0 0;".repeat(6 - had);
            dueFault("8: a RECIPE above 6", six + "recipe 0 0;", had, six.length(), 3);
            dueFault("8: its first word alone", six + " recipe", had, six.length() + 1, 3);
            dueFault("8: one that is wrong behind it, too", six + "recipe 99;", had, six.length(), 3);
            dueFault("8: no RECIPE there", six + "warm 0 1;", had, six.length(), 1);
            dueFault("8: a FAULT ahead of it", "recipe 16 0;" + six, had, had == 6 ? 0 : 7, had == 6 ? 3 : 2);
        }
    }

    private static void whenAllIsRead() {
        SweetLine x = Due.told("recipe 0 0 seed 1;");
        Due.feedText(x, "recipe 0 0 seed 2;recipe 0 0 seed 3;recipe 0 0 seed 51;");
        Due.due("7: a FAULT in the last", x.recipes(), -1000152);
        Due.due("7: none of them comes", x.count(1), 1);
        Due.due("7: none can be used", x.fill(0, 1, 5, 0, 0), Due.BAD);
        Due.feedText(x, "recipe 0 0 seed 4;recipe 0 0 seed 5;");
        Due.due("7: behind those there are", x.recipes(), 3);
        int[] seeds = {1, 4, 5};
        for (int recipe = 0; recipe < 3; recipe++) {
            Due.due("7: told in order, " + recipe, x.temper(recipe, 30, 0, 1), seeds[recipe]);
        }
        Due.due("7: what was read is not read again", x.recipes(), 3);
    }

    /** A FAULT leaves all but the tape and fault(), of tanks and bars that use RECIPES, too. */
    private static void onlyTheTapeChanges() {
        Run run = new Run().thenText(Due.GOOD + Due.RAW).then("recipes").then("fill", 0, 0, 900, 0, 1);
        run.then("ready", 0).then("beat", 30).then("sheet", 2, 1, 5).then("set", 2, 0, 7).then("drop", 7);
        Map<String, Integer> before = Seen.of(run);
        for (String text : new String[] {"x", "recipe 0 0;x", "recipe 7 7 seed 9 warm 9 9;recipe 3 3 seed 0;"}) {
            Run faulty = run.more().thenText(text).then("recipes");
            Due.due("31: status() stays", faulty.play().status(), 1);
            Map<String, Integer> after = Seen.of(faulty);
            for (Map.Entry<String, Integer> seen : before.entrySet()) {
                if (!seen.getKey().contains("fault()")) {
                    Due.due("7: " + seen.getKey() + " behind '" + text + "'", after.get(seen.getKey()), seen.getValue());
                }
            }
        }
    }

    private static void leastOfOneToken() {
        dueFault("8: 1 ahead of 2, a NUMBER that cannot stand there", "recipe 0 0 99;", 0, 11, 1);
        dueFault("8: 1 ahead of 2, at the start", "9999", 0, 0, 1);
        dueFault("8: 1 ahead of 2, behind a stage", "recipe 0 0 seed 1 0;", 0, 18, 1);
        dueFault("8: the first TOKEN, 2 ahead of 1 behind it", "recipe 16 x;", 0, 7, 2);
        dueFault("8: the first TOKEN, 1 ahead of 2 behind it", "recipe x 51;", 0, 7, 1);
        dueFault("8: the first TOKEN, 2 ahead of 3", "recipe 16 0;" + "recipe 0 0;".repeat(6), 0, 7, 2);
        dueFault("8: the first TOKEN, 3 ahead of 1", "recipe 0 0;x", 6, 0, 3);
        dueFault("8: the first TOKEN, 3 ahead of one that is none", "recipe 0 0" + " seed 1".repeat(7) + "?", 0, 53, 3);
    }

    private static void latestFault() {
        SweetLine x = new SweetLine();
        Due.due("8: 0 before one", x.fault(), 0);
        Due.due("8: 0 behind a text without one", x.recipes() + x.fault(), 0);
        String[] texts = {"recipe 99 0;", "x", "recipe 0 0" + " seed 1".repeat(7), ";", "recipe 0 99;"};
        int[] numbers = {2, 1, 3, 1, 2};
        for (int k = 0; k < texts.length; k++) {
            Due.feedText(x, texts[k]);
            x.recipes();
            Due.due("8: the latest", x.fault(), numbers[k]);
            Due.feedText(x, "recipe 0 0;");
            Due.due("8: a text without one", x.recipes(), k + 1);
            Due.due("8: is none", x.fault(), numbers[k]);
            x.feed(0, 9);
            x.temper(0, 99, 0, 0);
            Due.due("8: refusals are none", x.fault(), numbers[k]);
        }
    }
}
