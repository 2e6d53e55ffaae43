import java.io.IOException;
import java.lang.reflect.Constructor;
import java.lang.reflect.Field;
import java.lang.reflect.Method;
import java.lang.reflect.Modifier;
import java.nio.file.Files;
import java.nio.file.Path;
import java.util.Set;
import java.util.TreeSet;
import java.util.regex.Pattern;

/** The public face and the constants, and those rules of LANGUAGE.md that can be looked up. */
public final class FaceTest {
    private static final String SOURCE = "src/main/java/StrictSentences.java";

    public static void main(String[] args) throws IOException {
        Check.promise(Document.TERMS, "UNKNOWN -1 (no such SLOT), OUTSIDE -2 (another number is not as told), "
                + "FAULT -7 (the text is none), STATE -3", FaceTest::constants);
        face();
        insides();
        words();
        Check.end();
    }

    private static void constants() {
        Check.due("UNKNOWN", StrictSentences.UNKNOWN, -1);
        Check.due("OUTSIDE", StrictSentences.OUTSIDE, -2);
        Check.due("STATE", StrictSentences.STATE, -3);
        Check.due("FULL", StrictSentences.FULL, -4);
        Check.due("NONE", StrictSentences.NONE, -6);
        Check.due("FAULT", StrictSentences.FAULT, -7);
    }

    /** Each line of the document's face must be there, and nothing but these. */
    private static void face() {
        Set<String> written = new TreeSet<>();
        for (String line : Document.face()) {
            if (line.contains(" = ")) {
                writtenConstants(line, written);
            } else {
                // a parameter's name is not kept by the compiler
                written.add(line.replaceAll("int \\w+([,)])", "int$1"));
            }
        }
        Check.due("lines of the document's face", written.size(), 1 + 6 + 1 + 18);
        Set<String> found = found();
        for (String line : written) {
            Check.holds("there is " + line, found.contains(line));
        }
        for (String line : found) {
            Check.holds("the document has " + line, written.contains(line));
        }
    }

    private static void writtenConstants(String line, Set<String> written) {
        String kind = "public static final int ";
        Check.holds("constants are " + kind, line.startsWith(kind));
        for (String constant : line.substring(kind.length()).replace(";", "").split(", ")) {
            written.add(kind + constant);
        }
    }

    /** All of the class that is not private, but for the classes inside it. */
    private static Set<String> found() {
        Class<?> c = StrictSentences.class;
        Set<String> found = new TreeSet<>();
        found.add(c.toGenericString());
        for (Constructor<?> made : c.getDeclaredConstructors()) {
            found.add(made + ";");
        }
        for (Method m : c.getDeclaredMethods()) {
            if (!Modifier.isPrivate(m.getModifiers())) {
                found.add(m.toString().replace("StrictSentences.", "").replace(",", ", ") + ";");
            }
        }
        for (Field f : c.getDeclaredFields()) {
            if (!Modifier.isPrivate(f.getModifiers())) {
                found.add(f.toString().replace("StrictSentences.", "") + " = " + valueOf(f));
            }
        }
        return found;
    }

    private static String valueOf(Field constant) {
        try {
            return String.valueOf(constant.get(null));
        } catch (IllegalAccessException | NullPointerException e) {
            return "no constant that can be seen";
        }
    }

    private static boolean isNameOfACall(String name) {
        return Document.face().stream().anyMatch(line -> line.startsWith("public int " + name + "("));
    }

    private static void insides() {
        Class<?>[] inside = StrictSentences.class.getDeclaredClasses();
        Check.holds("at most twelve classes", inside.length < 12);
        shape(StrictSentences.class);
        for (Class<?> c : inside) {
            Check.holds(c + " is static", Modifier.isStatic(c.getModifiers()));
            shape(c);
        }
    }

    private static void shape(Class<?> c) {
        int fields = 0;
        for (Field f : c.getDeclaredFields()) {
            if (Modifier.isStatic(f.getModifiers())) {
                Check.holds(f + " is final", Modifier.isFinal(f.getModifiers()));
            } else {
                fields++;
            }
        }
        Check.holds(c + " has few fields", fields <= 20);
        for (Method m : c.getDeclaredMethods()) {
            Check.holds(m + " has few parameters", m.getParameterCount() <= 7);
            boolean isCall = c == StrictSentences.class && Modifier.isPublic(m.getModifiers());
            Check.holds(m + " has a name of its own", isCall || !isNameOfACall(m.getName()));
        }
    }

    private static void words() throws IOException {
        String code = Files.readString(Path.of(SOURCE))
                .replaceAll("(?s)/\\*.*?\\*/", "").replaceAll("//[^\n]*", "");
        String[] banned = {"\\bthrow\\b", "\\btry\\b", "\\bcatch\\b", "\\bsynchronized\\b", "\\bassert\\b",
            "\\bimport\\b", "\\bpackage\\b", "->", "::", "\\bprotected\\b", "\\bdouble\\b", "\\bfloat\\b",
            "Exact\\b", "\\bstatic\\s*\\{", "\\bvar\\b", "Random", "currentTimeMillis", "nanoTime", "Thread"};
        for (String word : banned) {
            Check.holds("no " + word, !Pattern.compile(word).matcher(code).find());
        }
    }
}
