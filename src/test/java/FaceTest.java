import java.io.IOException;
import java.lang.reflect.Field;
import java.lang.reflect.Method;
import java.lang.reflect.Modifier;
import java.nio.file.Files;
import java.nio.file.Path;
import java.util.Arrays;
import java.util.Set;
import java.util.TreeSet;
import java.util.regex.Matcher;
import java.util.regex.Pattern;

/** The public face, and the rules of the language that a look at the class and its text can tell. */
public final class FaceTest {
    private static final String[] FACE = {"sheet(int,int,int)", "set(int,int,int)", "copy(int,int,int,int,int)",
        "drop(int)", "feed(long,int)", "recipes()", "fault()", "temper(int,int,int,int)", "fill(int,int,int,int,int)",
        "ready(int)", "drain(int)", "tank(int,int)", "belt(int)", "gear(int,int)", "beat(int)", "mould(int,int)",
        "correct()", "bar(int,int)", "recall(int)", "melt(int)", "bin(int)", "grams(int)", "bloom(int,int,int,int,int)",
        "orders(int,int,int,int)", "kind(int)", "as(int,int)", "ask(int,int)", "trace(int)", "count(int)", "status()"};

    public static void main(String[] args) throws IOException {
        face();
        constants();
        nested();
        text();
        Due.end();
    }

    private static void face() {
        Set<String> open = new TreeSet<>();
        Set<String> names = new TreeSet<>();
        for (Method m : SweetLine.class.getDeclaredMethods()) {
            if (!Modifier.isPrivate(m.getModifiers())) {
                String types = String.join(",", Arrays.stream(m.getParameterTypes()).map(Class::getName).toList());
                open.add(m.getName() + "(" + types + ")");
                names.add(m.getName());
                boolean right = Modifier.isPublic(m.getModifiers()) && m.getReturnType() == int.class;
                Due.due(m + " is public and answers an int", right ? 1 : 0, 1);
            }
        }
        Due.due("the methods of the face", open.equals(Set.of(FACE)) ? 1 : 0, 1);
        for (Method m : SweetLine.class.getDeclaredMethods()) {
            boolean hides = Modifier.isPrivate(m.getModifiers()) && names.contains(m.getName());
            Due.due(m + " has a name of its own", hides ? 1 : 0, 0);
        }
        for (Class<?> c : SweetLine.class.getDeclaredClasses()) {
            for (Method m : c.getDeclaredMethods()) {
                Due.due(m + " has a name of its own", names.contains(m.getName()) ? 1 : 0, 0);
            }
        }
        Due.due("public and final", SweetLine.class.getModifiers() & (Modifier.PUBLIC | Modifier.FINAL), 17);
        Due.due("constructors", SweetLine.class.getDeclaredConstructors().length, 1);
    }

    private static void constants() {
        Due.due("NONE", SweetLine.NONE, -1000000);
        Due.due("BAD", SweetLine.BAD, -1000001);
        Due.due("STATE", SweetLine.STATE, -1000002);
        Due.due("FULL", SweetLine.FULL, -1000003);
        Set<String> open = new TreeSet<>();
        for (Field f : SweetLine.class.getDeclaredFields()) {
            if (!Modifier.isPrivate(f.getModifiers())) {
                open.add(f.getName());
            }
        }
        Due.due("no other open field", open.equals(Set.of("NONE", "BAD", "STATE", "FULL")) ? 1 : 0, 1);
    }

    private static void nested() {
        Class<?>[] classes = SweetLine.class.getDeclaredClasses();
        Due.due("some twelve classes", classes.length <= 12 ? 1 : 0, 1);
        for (Class<?> c : classes) {
            Due.due(c + " is static", Modifier.isStatic(c.getModifiers()) ? 1 : 0, 1);
            Due.due(c + " is not public", Modifier.isPublic(c.getModifiers()) ? 1 : 0, 0);
            dueFields(c);
        }
        dueFields(SweetLine.class);
    }

    private static void dueFields(Class<?> c) {
        int fields = 0;
        for (Field f : c.getDeclaredFields()) {
            if (Modifier.isStatic(f.getModifiers())) {
                Due.due(f + " is final", Modifier.isFinal(f.getModifiers()) ? 1 : 0, 1);
            } else {
                fields++;
            }
        }
        Due.due(c + " has some twenty fields", fields <= 20 ? 1 : 0, 1);
    }

    private static void text() throws IOException {
        String text = Files.readString(Path.of("src/main/java/SweetLine.java"));
        String code = text.replaceAll("(?s)/\\*.*?\\*/", "").replaceAll("//[^\n]*", "").replaceAll("\"[^\"\n]*\"", "\"\"");
        String[] words = {"throw", "throws", "try", "catch", "synchronized", "assert", "import", "package", "record",
            "Object", "hashCode", "toString", "->", "::", "Exact\\b"};
        for (String word : words) {
            String pattern = Character.isLetter(word.charAt(0)) && !word.startsWith("Exact") ? "\\b" + word + "\\b" : word;
            Matcher m = Pattern.compile(pattern).matcher(code);
            Due.due("'" + word + "' stands in the text", m.find() ? 1 : 0, 0);
        }
        Due.due("signs above 126", text.chars().filter(c -> c > 126).count(), 0);
    }
}
