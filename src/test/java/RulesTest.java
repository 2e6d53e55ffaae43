/** Promises 11, 13, 14, 15 and 16 against the document's own rules, used until nothing more can be told. */
public final class RulesTest {
    private static final int SENTENCES = 300;
    private static final int PAIRS = 300;
    /** Of an object: below its 512 calls with those that read the text. */
    private static final int CALLS = 400;

    private long seed = 362436069521288629L;

    public static void main(String[] args) {
        RulesTest test = new RulesTest();
        for (int i = 0; i < SENTENCES; i++) {
            test.allOf(test.text(11));
        }
        for (int i = 0; i < PAIRS; i++) {
            test.oneFromTheOther(test.text(6), test.text(6));
        }
        Check.end();
    }

    private void allOf(String text) {
        Rules rules = new Rules(Check.holding(text), 0);
        int root = rules.size - 1;
        Check.due("plain " + text, Check.holding(text).plain(0), rules.follows(0, root) ? 1 : 0);
        from(text, rules);
        worlds(text, rules);
    }

    private void from(String text, Rules rules) {
        StrictSentences x = Check.holding(text);
        int calls = 0;
        for (int set = 0; set < 1 << rules.size; set++) {
            for (int k = 0; k < rules.size; k++) {
                calls++;
                x = calls % CALLS == 0 ? Check.holding(text) : x;
                int due = rules.follows(set, k) ? 1 : 0;
                Check.due("from " + text + ", " + set + ", " + k, x.from(0, set, k), due);
            }
        }
    }

    private void worlds(String text, Rules rules) {
        StrictSentences x = Check.holding(text);
        int found = 0;
        int refuting = 0;
        for (int set = 0; set < 1 << rules.size; set++) {
            if (rules.isWorld(set)) {
                Check.due("world " + found + " of " + text, x.world(0, found, 0), set);
                found++;
                refuting += 1 - (set >> rules.size - 1);
            }
        }
        Check.due("worlds of " + text, x.worlds(0, 0), found);
        Check.due("refuting worlds of " + text, x.worlds(0, 1), refuting);
    }

    private void oneFromTheOther(String a, String b) {
        StrictSentences x = Check.holding(a, b);
        if (x.make(2, 0, 1, 2) == StrictSentences.FULL) {
            Check.due(b + " from " + a, x.follows(0, 1), StrictSentences.FULL);
            return;
        }
        Rules rules = new Rules(x, 2);
        int root = rules.size - 1;
        int due = rules.follows(1 << x.told(2, root, 1), x.told(2, root, 2)) ? 1 : 0;
        Check.due(b + " from " + a, x.follows(0, 1), due);
    }

    /** A SENTENCE with at most so many PARTS. */
    private String text(int parts) {
        while (true) {
            StringBuilder text = new StringBuilder();
            write(text, 2 + below(3));
            StrictSentences x = new StrictSentences();
            if (text.length() > 4 && text.length() <= 40) {
                int has = Check.put(x, 0, text.toString());
                if (has > 0 && has <= parts) {
                    return text.toString();
                }
            }
        }
    }

    private void write(StringBuilder text, int depth) {
        int way = depth == 0 ? 9 : below(9);
        if (way < 2) {
            text.append('-');
            write(text, depth - 1);
        } else if (way < 8) {
            text.append('(');
            write(text, depth - 1);
            text.append("&|>>".charAt(below(4)));
            write(text, depth - 1);
            text.append(')');
        } else {
            text.append("ppppqqqrrsF".charAt(below(11)));
        }
    }

    private int below(int bound) {
        seed ^= seed << 13;
        seed ^= seed >>> 7;
        seed ^= seed << 17;
        return (int) Math.floorMod(seed >>> 8, (long) bound);
    }
}
