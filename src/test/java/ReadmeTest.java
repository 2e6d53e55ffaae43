import java.io.File;
import java.io.IOException;
import java.lang.reflect.Method;
import java.nio.file.Files;
import java.nio.file.Path;
import java.util.Set;
import java.util.TreeSet;
import java.util.regex.Matcher;
import java.util.regex.Pattern;

/** What README.md says is so: its example, the calls and refusals it lists, and the tests it names. */
public final class ReadmeTest {
    private static final Pattern TEXT = Pattern.compile("for \\(char sign : \"(.*)\"\\.toCharArray\\(\\)\\) \\{");
    private static final Pattern CALL = Pattern.compile("x\\.(\\w+)\\((.*)\\); +// (-?\\d+): .+");
    private static final Pattern REFUSAL = Pattern.compile("\\b([A-Z]{4,}) (-\\d)\\b");

    public static void main(String[] args) throws IOException, ReflectiveOperationException {
        String page = Files.readString(Path.of("README.md"));
        example(page);
        calls(page);
        constants(page);
        tests(page);
        Check.end();
    }

    private static void example(String page) throws ReflectiveOperationException {
        String[] lines = between(page, "```java\n", "```").split("\n");
        Check.due("the example begins", lines[0], "StrictSentences x = new StrictSentences();");
        StrictSentences x = new StrictSentences();
        int asked = 0;
        for (int i = 1; i < lines.length; i++) {
            Matcher text = TEXT.matcher(lines[i]);
            Matcher call = CALL.matcher(lines[i]);
            if (text.matches() && i + 2 < lines.length) {
                Check.due("in the loop", lines[i + 1] + lines[i + 2], "    x.say(sign);}");
                Check.say(x, text.group(1));
                i += 2;
            } else if (call.matches()) {
                Check.due(lines[i], answer(x, call.group(1), call.group(2)), Integer.parseInt(call.group(3)));
                asked++;
            } else {
                Check.holds("a line of the example can be read: " + lines[i], false);
            }
        }
        Check.holds("the example asks something", asked > 0);
    }

    private static int answer(StrictSentences x, String name, String arguments) throws ReflectiveOperationException {
        String[] each = arguments.isEmpty() ? new String[0] : arguments.split(", ");
        Object[] numbers = new Object[each.length];
        Class<?>[] kinds = new Class<?>[each.length];
        for (int i = 0; i < each.length; i++) {
            numbers[i] = each[i].startsWith("'") ? each[i].charAt(1) : Integer.parseInt(each[i]);
            kinds[i] = int.class;
        }
        Method call = StrictSentences.class.getMethod(name, kinds);
        return (int) call.invoke(x, numbers);
    }

    private static void calls(String page) {
        Set<String> written = new TreeSet<>();
        for (String line : Document.face()) {
            if (line.startsWith("public int ")) {
                written.add(line.replace("public int ", "").replace("(int ", "(").replace(", int ", ", ").replace(";", ""));
            }
        }
        Set<String> listed = new TreeSet<>();
        Matcher row = Pattern.compile("(?m)^\\| `([^`]+)` \\|").matcher(page);
        while (row.find()) {
            listed.add(row.group(1));
        }
        Check.due("the calls that are listed", listed.toString(), written.toString());
    }

    private static void constants(String page) throws ReflectiveOperationException {
        Set<String> named = new TreeSet<>();
        Matcher refusal = REFUSAL.matcher(page);
        while (refusal.find()) {
            named.add(refusal.group(1));
            int value = StrictSentences.class.getField(refusal.group(1)).getInt(null);
            Check.due(refusal.group(1), Integer.parseInt(refusal.group(2)), value);
        }
        Check.due("the constants that are named", named.toString(), "[FAULT, FULL, NONE, OUTSIDE, STATE, UNKNOWN]");
    }

    private static void tests(String page) {
        Set<String> named = new TreeSet<>();
        Matcher test = Pattern.compile("`(\\w+Test)`").matcher(page);
        while (test.find()) {
            named.add(test.group(1) + ".java");
        }
        Set<String> there = new TreeSet<>();
        for (String file : new File("src/test/java").list()) {
            if (file.endsWith("Test.java")) {
                there.add(file);
            }
        }
        Check.due("the tests that are named", named.toString(), there.toString());
        Check.holds("how they are run", page.contains("\n    .ci/run\n") && new File(".ci/run").canExecute());
    }

    private static String between(String page, String begin, String end) {
        int from = page.indexOf(begin);
        int to = page.indexOf(end, from + begin.length());
        Check.holds("README.md has " + begin.trim(), from >= 0 && to >= 0);
        return from < 0 || to < 0 ? "" : page.substring(from + begin.length(), to);
    }
}
