import java.lang.reflect.InvocationTargetException;
import java.lang.reflect.Method;
import java.util.ArrayList;
import java.util.Arrays;
import java.util.List;
import java.util.Random;

/** Random runs of 512 calls, each answer against that of Model; with wild arguments, too. */
public final class ModelTest {
    private static final String[] CALLS = {"sheet", "set", "copy", "drop", "feed", "recipes", "fault", "temper",
        "fill", "ready", "drain", "tank", "belt", "gear", "beat", "mould", "correct", "bar", "recall", "melt", "bin",
        "grams", "bloom", "orders", "kind", "as", "ask", "trace", "count", "status"};
    /** How often each of CALLS is made, by runs of three tastes: all alike, sheets, the line. */
    private static final int[][] TASTES = {
        {1, 1, 1, 1, 1, 1, 1, 1, 1, 1, 1, 1, 1, 1, 1, 1, 1, 1, 1, 1, 1, 1, 1, 1, 1, 1, 1, 1, 1, 1},
        {6, 40, 8, 1, 1, 1, 1, 1, 2, 2, 1, 1, 0, 1, 3, 1, 1, 1, 1, 1, 1, 1, 9, 12, 1, 3, 1, 1, 2, 4},
        {1, 1, 1, 1, 2, 1, 1, 1, 25, 8, 2, 8, 3, 9, 25, 9, 4, 5, 1, 9, 4, 7, 1, 1, 4, 4, 5, 9, 5, 2}};
    private static final int[] WILD = {Integer.MIN_VALUE, Integer.MAX_VALUE, -1, 1 << 30, 65536, -1000001, 255};

    private static final Method[] OF_CLASS = methodsOf(SweetLine.class);
    private static final Method[] OF_MODEL = methodsOf(Model.class);

    private static int runs = 0;
    private static int calls = 0;
    private static int wrong = 0;
    private static final int[] answered = new int[CALLS.length];

    private final Random random;
    private final SweetLine x = new SweetLine();
    private final Model y = new Model();
    private final List<String> told = new ArrayList<>();
    private int made = 0;

    private ModelTest(long seed) {
        random = new Random(seed);
    }

    public static void main(String[] args) {
        for (int seed = 1; seed <= 2000 && wrong == 0; seed++) {
            new ModelTest(seed).run(TASTES[seed % TASTES.length]);
            runs++;
        }
        System.out.println(runs + " runs, " + calls + " calls, " + wrong + " answers not as in Model");
        for (int call = 0; call < CALLS.length; call++) {
            if (answered[call] < 1000) {
                System.out.println(CALLS[call] + " was answered without a refusal only " + answered[call] + " times");
                wrong++;
            }
        }
        if (wrong != 0) {
            System.exit(1);
        }
    }

    private void run(int[] taste) {
        if (random.nextInt(8) != 0) {
            feedRecipes(true);
        }
        int all = 0;
        for (int weight : taste) {
            all += weight;
        }
        while (made < 512 && wrong == 0) {
            int pick = random.nextInt(all);
            int call = 0;
            while (pick >= taste[call]) {
                pick -= taste[call];
                call++;
            }
            if (CALLS[call].equals("feed") && random.nextInt(3) == 0) {
                feedRecipes(random.nextBoolean());
            } else {
                make(call, arguments(CALLS[call]));
            }
        }
    }

    private int some(int least, int most) {
        int taste = random.nextInt(100);
        if (taste < 2) {
            return WILD[random.nextInt(WILD.length)];
        }
        if (taste < 4) {
            return random.nextBoolean() ? least - 1 : most + 1;
        }
        if (taste < 14) {
            return random.nextBoolean() ? least : most;
        }
        return least + random.nextInt(most - least + 1);
    }

    private long[] arguments(String call) {
        int recipes = Math.max(0, y.recipeCount() - 1);
        int bars = Math.max(0, Math.min(40, y.barCount()) - 1);
        switch (call) {
            case "sheet": return row(some(0, 7), some(0, 2), some(0, 60));
            case "set": return row(some(0, 7), some(0, 59), item());
            case "copy": return row(some(0, 7), some(0, 30), some(0, 7), some(0, 30), some(0, 30));
            case "drop": return row(some(0, 7));
            case "feed": return row(random.nextLong() >> random.nextInt(64), some(1, 8));
            case "temper": return row(some(0, recipes), some(0, 60), some(0, 999), some(0, 3));
            case "fill": return fillArguments(recipes);
            case "ready": case "drain": return row(some(0, 3));
            case "tank": return row(some(0, 3), some(0, 6));
            case "belt": return row(some(6, 15));
            case "gear": return gearArguments();
            case "beat": return row(random.nextInt(4) == 0 ? some(1, 100) : some(1, 12));
            case "mould": return row(some(0, 14), some(0, 5));
            case "bar": return row(some(0, bars), some(0, 6));
            case "recall": return row(some(0, 9));
            case "bin": return row(some(0, recipes));
            case "grams": return row(some(0, 5));
            case "bloom": return row(some(0, bars), some(0, 7), some(0, 20), some(1, random.nextBoolean() ? 3 : 20), some(0, 1));
            case "orders": return ordersArguments();
            case "melt": case "kind": return row(some(0, bars));
            case "as": return row(some(0, bars), some(0, 4));
            case "ask": return row(some(0, bars), some(0, 1));
            case "trace": return row(some(0, 6));
            case "count": return row(some(0, 7));
            default: return row();
        }
    }

    private static long[] row(long... arguments) {
        return arguments;
    }

    private int item() {
        int taste = random.nextInt(20);
        return taste == 0 ? random.nextInt() : taste < 3 ? some(0, 999) : some(1, 15);
    }

    /** Mostly of the recipe that is there, and with as much rework as there may be, or one more. */
    private long[] fillArguments(int recipes) {
        int tank = some(0, 3);
        int had = y.recipeIn(tank);
        int recipe = had >= 0 && random.nextInt(4) != 0 ? had : some(0, recipes);
        int grams = random.nextInt(3) == 0 ? some(1, 20000) : some(1, 400);
        int bin = y.inBin(recipe);
        int rework = bin <= 0 || random.nextInt(3) == 0 ? 0 : some(0, Math.min(bin, Math.max(1, grams / 3)));
        return row(tank, recipe, grams, rework, some(0, 9));
    }

    private long[] gearArguments() {
        int what = random.nextInt(3) == 0 ? some(3, 7) : some(0, 14);
        switch (what) {
            case 0: return row(what, random.nextBoolean() ? some(10, 200) : some(10, 60));
            case 1: return row(what, some(0, 100));
            case 2: return row(what, some(0, 3));
            case 13: return row(what, some(-20, 20));
            case 14: return row(what, some(-5, 5));
            default: return row(what, random.nextBoolean() ? 9 : some(0, 9));
        }
    }

    /** Sheets of valid orders are rare by chance, so some are written here. */
    private long[] ordersArguments() {
        int sheet = random.nextInt(8);
        int n = random.nextInt(12) == 0 ? 7 : 1 + random.nextInt(5);
        if (random.nextInt(6) == 0) {
            make(0, row(sheet, 1 + random.nextInt(2), 3 * n + random.nextInt(3)));
            for (int k = 0; k < n; k++) {
                make(1, row(sheet, 3 * k, some(0, 15)));
                make(1, row(sheet, 3 * k + 1, some(1, random.nextBoolean() ? 9 : 99)));
                make(1, row(sheet, 3 * k + 2, some(0, random.nextBoolean() ? 30 : 999)));
            }
            for (int k = -1; k < n; k++) {
                make(23, row(sheet, 0, n, k));
            }
        }
        return row(some(0, 7), some(0, 6), some(1, 4), some(-1, n - 1));
    }

    private void feedRecipes(boolean right) {
        StringBuilder text = new StringBuilder();
        int recipes = 1 + random.nextInt(3);
        for (int k = 0; k < recipes; k++) {
            text.append("recipe ").append(random.nextInt(16)).append(' ').append(random.nextInt(51));
            int stages = random.nextInt(right ? 5 : 8);
            if (random.nextInt(3) != 0) {
                text.append(" warm ").append(28 + random.nextInt(6)).append(" 20 seed ").append(10 + random.nextInt(40));
            }
            for (int stage = 2; stage < stages; stage++) {
                text.append(random.nextBoolean() ? " warm " + random.nextInt(61) + "\n" + (1 + random.nextInt(60))
                    : " seed " + (1 + random.nextInt(50)));
            }
            text.append(random.nextBoolean() ? ";" : " ; ");
        }
        for (int spoils = random.nextInt(3); spoils > 0 && !right; spoils--) {
            String[] signs = {";", " ", "9", "00", "recipe", "warm ", "x", "\n", "\t", "\u00e4", " 61 ", "12345", "0"};
            int at = random.nextInt(text.length());
            text.replace(at, Math.min(text.length(), at + random.nextInt(3)), signs[random.nextInt(signs.length)]);
        }
        for (int i = 0; i < text.length(); i += 8) {
            int n = Math.min(8, text.length() - i);
            long w = random.nextInt();
            for (int k = 0; k < n; k++) {
                w = w << 8 | text.charAt(i + k);
            }
            make(4, row(w, n));
        }
        make(5, row());
        make(6, row());
    }

    private void make(int call, long[] a) {
        if (made >= 512 || wrong != 0) {
            return;
        }
        made++;
        calls++;
        int want = answer(y, OF_MODEL[call], a);
        int got = answer(x, OF_CLASS[call], a);
        told.add(CALLS[call] + Arrays.toString(a) + " = " + got);
        if (want > Due.BAD) {
            answered[call]++;
        }
        if (got != want) {
            wrong++;
            told.forEach(System.out::println);
            System.out.println("but Model answers " + want);
        }
    }

    /** The answer of the same call on either program; a Refusal of Model is its answer, too. */
    private static int answer(Object program, Method method, long[] a) {
        Object[] arguments = new Object[a.length];
        for (int k = 0; k < a.length; k++) {
            boolean isLong = method.getParameterTypes()[k] == long.class;
            arguments[k] = isLong ? (Object) a[k] : (Object) (int) a[k];
        }
        try {
            return (int) method.invoke(program, arguments);
        } catch (InvocationTargetException e) {
            if (e.getCause() instanceof Model.Refusal r) {
                return r.answer;
            }
            throw new IllegalStateException(method + Arrays.toString(a), e.getCause());
        } catch (IllegalAccessException e) {
            throw new IllegalStateException(e);
        }
    }

    private static Method[] methodsOf(Class<?> program) {
        Method[] methods = new Method[CALLS.length];
        for (Method m : program.getDeclaredMethods()) {
            int call = Arrays.asList(CALLS).indexOf(m.getName());
            if (call >= 0) {
                methods[call] = m;
            }
        }
        return methods;
    }
}
