import java.io.IOException;
import java.lang.reflect.Field;
import java.lang.reflect.Method;
import java.lang.reflect.Modifier;
import java.nio.file.Files;
import java.nio.file.Path;
import java.util.Set;
import java.util.TreeSet;
import java.util.regex.Pattern;

/** The public face and the constants, and those rules of LANGUAGE.md that can be looked up. */
public final class FaceTest {
    private static final Set<String> CALLS = Set.of("say 1", "wipe 0", "read 1", "fault 0", "make 4", "part 3",
            "sign 2", "told 3", "drop 1", "plain 1", "rows 1", "follows 2", "from 3", "worlds 2", "world 3",
            "image 1", "restore 1", "count 1");
    private static final String SOURCE = "src/main/java/StrictSentences.java";

    public static void main(String[] args) throws IOException {
        Check.promise(Document.TERMS, "UNKNOWN -1 (no such SLOT), OUTSIDE -2 (another number is not as told), "
                + "FAULT -7 (the text is none), STATE -3", FaceTest::constants);
        face();
        insides();
        words();
        Check.end();
    }

    private static void constants() {
        Check.due("UNKNOWN", StrictSentences.UNKNOWN, -1);
        Check.due("OUTSIDE", StrictSentences.OUTSIDE, -2);
        Check.due("STATE", StrictSentences.STATE, -3);
        Check.due("FULL", StrictSentences.FULL, -4);
        Check.due("NONE", StrictSentences.NONE, -6);
        Check.due("FAULT", StrictSentences.FAULT, -7);
    }

    private static void face() {
        Class<?> c = StrictSentences.class;
        Check.holds("public final", Modifier.isPublic(c.getModifiers()) && Modifier.isFinal(c.getModifiers()));
        Check.due("constructors", c.getDeclaredConstructors().length, 1);
        Check.due("public constructors", c.getConstructors().length, 1);
        Set<String> found = new TreeSet<>();
        for (Method m : c.getDeclaredMethods()) {
            if (!Modifier.isPrivate(m.getModifiers())) {
                found.add(m.getName() + " " + m.getParameterCount());
                Check.holds(m + " is public and answers an int",
                        Modifier.isPublic(m.getModifiers()) && m.getReturnType() == int.class);
            }
        }
        Check.holds("the calls are " + found, found.equals(CALLS));
        int constants = 0;
        for (Field f : c.getDeclaredFields()) {
            if (!Modifier.isPrivate(f.getModifiers())) {
                constants++;
                Check.holds(f + " is a constant", Modifier.isPublic(f.getModifiers())
                        && Modifier.isStatic(f.getModifiers()) && Modifier.isFinal(f.getModifiers()));
            }
        }
        Check.due("constants", constants, 6);
    }

    private static void insides() {
        Class<?>[] inside = StrictSentences.class.getDeclaredClasses();
        Check.holds("at most twelve classes", inside.length < 12);
        shape(StrictSentences.class);
        for (Class<?> c : inside) {
            Check.holds(c + " is static", Modifier.isStatic(c.getModifiers()));
            shape(c);
        }
    }

    private static void shape(Class<?> c) {
        int fields = 0;
        for (Field f : c.getDeclaredFields()) {
            if (Modifier.isStatic(f.getModifiers())) {
                Check.holds(f + " is final", Modifier.isFinal(f.getModifiers()));
            } else {
                fields++;
            }
        }
        Check.holds(c + " has few fields", fields <= 20);
        for (Method m : c.getDeclaredMethods()) {
            Check.holds(m + " has few parameters", m.getParameterCount() <= 7);
            boolean isCall = c == StrictSentences.class && Modifier.isPublic(m.getModifiers());
            boolean likeACall = CALLS.stream().anyMatch(call -> call.startsWith(m.getName() + " "));
            Check.holds(m + " has a name of its own", isCall || !likeACall);
        }
    }

    private static void words() throws IOException {
        String code = Files.readString(Path.of(SOURCE))
                .replaceAll("(?s)/\\*.*?\\*/", "").replaceAll("//[^\n]*", "");
        String[] banned = {"\\bthrow\\b", "\\btry\\b", "\\bcatch\\b", "\\bsynchronized\\b", "\\bassert\\b",
            "\\bimport\\b", "\\bpackage\\b", "->", "::", "\\bprotected\\b", "\\bdouble\\b", "\\bfloat\\b",
            "Exact\\b", "\\bstatic\\s*\\{", "\\bvar\\b", "Random", "currentTimeMillis", "nanoTime", "Thread"};
        for (String word : banned) {
            Check.holds("no " + word, !Pattern.compile(word).matcher(code).find());
        }
    }
}
