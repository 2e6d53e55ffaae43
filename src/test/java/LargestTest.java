/** The largest sentences that are not LARGE, with 11 parts: promises 11, 14, 15 and 16 against the model. */
public final class LargestTest {
    /** Those with the most worlds, the highest and the most that have none above, of a long search; then others. */
    private static final String[] TEXTS = {
        "((r>-s)>-(q>(p>F)))", "(-r>(q>-(s>(p>F))))", "(((s>r)>(q>p))>((r>p)>(q>s)))", "(q>(-r&(-s&-p)))",
        "((-r>(q&s))>(-p>r))", "(-(q&p)&(-r|-s))", "---------p", "(((p&q)|(r>s))>((q&p)|(s>r)))",
        "((p>(q>r))>((p>q)>(p>(r|s))))", "((p>(q|r))>((p>q)|(p>(r|s))))"};

    public static void main(String[] args) {
        for (String text : TEXTS) {
            compareWorlds(text);
            compareFrom(text);
        }
        Check.end();
    }

    private static Model modelOf(String text) {
        Model model = new Model();
        for (char sign : text.toCharArray()) {
            model.say(sign);
        }
        Check.due("parts of " + text, model.read(0), 11);
        return model;
    }

    private static void compareWorlds(String text) {
        StrictSentences x = Check.holding(text);
        Model model = modelOf(text);
        Check.due("plain " + text, x.plain(0), model.plain(0));
        for (int what = 0; what <= 5; what++) {
            Check.due("worlds of " + text + ", " + what, x.worlds(0, what), model.worlds(0, what));
        }
        int many = model.worlds(0, 0);
        for (int i = 0; i <= many; i++) {
            for (int what = 0; what <= 2; what++) {
                Check.due("world " + i + " of " + text + ", " + what, x.world(0, i, what), model.world(0, i, what));
            }
        }
    }

    /** Each object is asked for some 400 sets, well below its 512 calls. */
    private static void compareFrom(String text) {
        Model model = modelOf(text);
        StrictSentences x = null;
        for (int set = 0; set < 2048; set++) {
            x = set % 400 == 0 ? Check.holding(text) : x;
            int k = (set * 7 + (set >> 5)) % 11;
            Check.due("from " + text + ", " + set + ", " + k, x.from(0, set, k), model.from(0, set, k));
        }
    }
}
