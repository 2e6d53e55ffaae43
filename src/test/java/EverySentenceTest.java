import java.util.ArrayList;
import java.util.List;
import java.util.Set;

/** All small sentences of p, q and F: promises 11 to 16 against proofs and the definition of worlds. */
public final class EverySentenceTest {
    private static final int MOST_PAIRS = 3;

    public static void main(String[] args) {
        List<List<String>> byPairs = new ArrayList<>();
        byPairs.add(List.of("p", "q", "F"));
        for (int pairs = 1; pairs <= MOST_PAIRS; pairs++) {
            byPairs.add(withPairs(byPairs, pairs));
        }
        for (List<String> texts : byPairs) {
            for (String text : texts) {
                compare(text);
            }
        }
        Check.end();
    }

    private static List<String> withPairs(List<List<String>> smaller, int pairs) {
        List<String> found = new ArrayList<>();
        for (int left = 0; left < pairs; left++) {
            for (String a : smaller.get(left)) {
                for (String b : smaller.get(pairs - 1 - left)) {
                    for (char kind : "&|>".toCharArray()) {
                        found.add("(" + a + kind + b + ")");
                    }
                }
            }
        }
        return found;
    }

    private static void compare(String text) {
        StrictSentences x = new StrictSentences();
        Model model = new Model();
        for (char sign : text.toCharArray()) {
            x.say(sign);
            model.say(sign);
        }
        Check.due("read " + text, x.read(0), model.read(0));
        Check.due("plain " + text, x.plain(0), model.plain(0));
        Check.due("rows " + text, x.rows(0), model.rows(0));
        for (int what = 0; what <= 5; what++) {
            Check.due("worlds " + text + " " + what, x.worlds(0, what), model.worlds(0, what));
        }
        int worlds = x.worlds(0, 0);
        for (int i = 0; i <= worlds; i++) {
            for (int what : Set.of(0, 1, 2)) {
                Check.due("world " + text + " " + i + " " + what, x.world(0, i, what), model.world(0, i, what));
            }
        }
    }
}
