import java.lang.reflect.InvocationTargetException;
import java.lang.reflect.Method;
import java.util.ArrayList;
import java.util.Arrays;
import java.util.HashMap;
import java.util.List;
import java.util.Map;

/** Calls by their names, kept so that they can be made again on as many new objects as are needed. */
final class Run {
    /** In the order of the document: the first of them is promise 2. */
    private static final List<String> PROMISED = List.of("sheet", "set", "copy", "drop", "feed", "recipes", "fault",
        "temper", "fill", "ready", "drain", "tank", "belt", "gear", "beat", "mould", "correct", "bar", "recall", "melt",
        "bin", "grams", "bloom", "orders", "kind", "as", "ask", "trace", "count", "status");
    private static final Map<String, Method> FACE = new HashMap<>();

    static {
        for (Method m : SweetLine.class.getMethods()) {
            if (m.getDeclaringClass() == SweetLine.class) {
                FACE.put(m.getName(), m);
            }
        }
    }

    private final List<String> names = new ArrayList<>();
    private final List<long[]> arguments = new ArrayList<>();

    Run then(String name, long... a) {
        names.add(name);
        arguments.add(a);
        return this;
    }

    /** The text in portions of eight bytes. */
    Run thenText(String text) {
        for (int i = 0; i < text.length(); i += 8) {
            int n = Math.min(8, text.length() - i);
            long w = 0;
            for (int k = 0; k < n; k++) {
                w = w << 8 | text.charAt(i + k) & 255;
            }
            then("feed", w, n);
        }
        return this;
    }

    Run more() {
        Run run = new Run();
        run.names.addAll(names);
        run.arguments.addAll(arguments);
        return run;
    }

    int size() {
        return names.size();
    }

    SweetLine play() {
        SweetLine x = new SweetLine();
        for (int k = 0; k < names.size(); k++) {
            make(x, names.get(k), arguments.get(k));
        }
        return x;
    }

    static int make(SweetLine x, String name, long... a) {
        Method method = FACE.get(name);
        Object[] given = new Object[a.length];
        for (int k = 0; k < a.length; k++) {
            boolean isLong = method.getParameterTypes()[k] == long.class;
            given[k] = isLong ? (Object) a[k] : (Object) (int) a[k];
        }
        try {
            return (int) method.invoke(x, given);
        } catch (InvocationTargetException e) {
            throw new IllegalStateException(told(name, a), e.getCause());
        } catch (IllegalAccessException e) {
            throw new IllegalStateException(e);
        }
    }

    static int promise(String name) {
        return PROMISED.indexOf(name) + 2;
    }

    static String told(String name, long... a) {
        String row = Arrays.toString(a);
        return name + "(" + row.substring(1, row.length() - 1) + ")";
    }
}
