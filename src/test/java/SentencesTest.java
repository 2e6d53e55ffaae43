/** Promises 2 to 9, ordinary inputs; their boundary cases stand in TextBoundsTest and SlotBoundsTest. */
public final class SentencesTest {
    public static void main(String[] args) {
        read();
        readNumbersParts();
        faultPlaces();
        make();
        part();
        sign();
        told();
        Check.end();
    }

    private static void read() {
        StrictSentences x = new StrictSentences();
        Check.due("read", Check.put(x, 5, "(p&(q|r))"), 5);
        Check.due("the text is empty then", x.count(4), 0);
        Check.due("the slot holds it", x.count(15), 5);
        Check.due("read over it", Check.put(x, 5, "s"), 1);
        Check.due("the slot holds the new one", x.count(15), 1);
    }

    private static void readNumbersParts() {
        parts("p", "p");
        parts("F", "F");
        parts("-p", "p", "F", "(p>F)");
        parts("-F", "F", "(F>F)");
        parts("--p", "p", "F", "(p>F)", "((p>F)>F)");
        parts("(F|-p)", "F", "p", "(p>F)", "(F|(p>F))");
        parts("(p>F)", "p", "F", "(p>F)");
        parts("(-p&(p>F))", "p", "F", "(p>F)", "((p>F)&(p>F))");
        parts("(p&p)", "p", "(p&p)");
        parts("((q>p)|(p>q))", "q", "p", "(q>p)", "(p>q)", "((q>p)|(p>q))");
        parts("((p&q)>(p|(q&p)))", "p", "q", "(p&q)", "(q&p)", "(p|(q&p))", "((p&q)>(p|(q&p)))");
        parts("(s|(r&(q>-s)))", "s", "r", "q", "F", "(s>F)", "(q>(s>F))",
                "(r&(q>(s>F)))", "(s|(r&(q>(s>F))))");
    }

    private static void parts(String text, String... want) {
        StrictSentences x = new StrictSentences();
        Check.due("parts of " + text, Check.put(x, 0, text), want.length);
        for (int k = 0; k < want.length; k++) {
            x.part(1, 0, k);
            Check.holds("part " + k + " of " + text + " is " + want[k], want[k].equals(Check.written(x, 1)));
        }
        Check.due("no part more of " + text, x.part(1, 0, want.length), StrictSentences.OUTSIDE);
    }

    private static void faultPlaces() {
        fault("", 0);
        fault("(", 1);
        fault("-", 1);
        fault("(p", 2);
        fault("(p&", 3);
        fault("(p&q", 4);
        fault("-(p>q", 5);
        fault(")", 0);
        fault("&", 0);
        fault("x", 0);
        fault("f", 0);
        fault("P", 0);
        fault("t", 0);
        fault("o", 0);
        fault("~p", 0);
        fault("pq", 1);
        fault("p)", 1);
        fault("p&q", 1);
        fault("(p)", 2);
        fault("(pq", 2);
        fault("(p-q)", 2);
        fault("(p(q", 2);
        fault("(p&)", 3);
        fault("(p&&q)", 3);
        fault("(&p", 1);
        fault("()", 1);
        fault("(p&q&r)", 4);
        fault("(p&q))", 5);
        fault("(p&q)p", 5);
        fault("(p&q)-", 5);
        fault("((p&q)", 6);
        fault("((p&q))", 6);
        fault("-p-", 2);
        fault("--p)", 3);
        fault("(-p)", 3);
        fault("(p&-)", 4);
        fault("(p=q)", 2);
        fault("(p>q)x((", 5);
        fault("xx", 0);
        fault("(".repeat(40), 40);
        fault("(".repeat(39) + ")", 39);
        fault("-".repeat(40), 40);
    }

    private static void fault(String text, int place) {
        StrictSentences x = Check.holding("q");
        Check.due("read of " + text, Check.put(x, 0, text), StrictSentences.FAULT);
        Check.due("fault of " + text, x.fault(), place);
        Check.due("the slot stays", x.sign(0, 0), 'q');
        Check.due("wipe of " + text, x.wipe(), text.length());
    }

    private static void make() {
        made("p", "q", 0, "(p&q)", 3);
        made("p", "q", 1, "(p|q)", 3);
        made("p", "q", 2, "(p>q)", 3);
        made("q", "p", 2, "(q>p)", 3);
        made("p", "p", 0, "(p&p)", 2);
        made("p", "F", 2, "(p>F)", 3);
        made("(q>p)", "(p>q)", 1, "((q>p)|(p>q))", 5);
        made("-p", "-q", 0, "((p>F)&(q>F))", 6);
        made("(p&q)", "(r|(p&q))", 2, "((p&q)>(r|(p&q)))", 6);
        StrictSentences x = Check.holding("-p", "(p>q)");
        Check.due("make is like read", x.make(2, 0, 1, 1), Check.put(x, 3, "(-p|(p>q))"));
        Check.due("the made one is no other sentence", x.count(3), 3);
        Check.due("A keeps its numbers", x.told(2, 1, 0), 1);
        Check.due("B comes behind", x.told(2, 3, 1), 1);
        Check.due("q", x.told(2, 3, 0), 0);
        Check.due("(p>q) left", x.told(2, 4, 1), 0);
        Check.due("(p>q) right", x.told(2, 4, 2), 3);
        Check.due("make over a", x.make(0, 0, 1, 0), 6);
        Check.holds("made of what was there", "((p>F)&(p>q))".equals(Check.written(x, 0)));
        Check.due("make over b", x.make(1, 3, 1, 0), 7);
        Check.holds("made over b", "(((p>F)|(p>q))&(p>q))".equals(Check.written(x, 1)));
    }

    private static void made(String a, String b, int way, String want, int parts) {
        StrictSentences x = Check.holding(a, b);
        Check.due("make " + want, x.make(5, 0, 1, way), parts);
        Check.holds("made " + want, want.equals(Check.written(x, 5)));
        Check.holds("a stays", Check.put(x, 4, a) == x.count(10) && x.count(3) == (a.equals(b) ? 2 : 3));
    }

    private static void part() {
        StrictSentences x = Check.holding("((p|q)&(q>-p))");
        Check.due("parts", x.count(10), 7);
        Check.due("part 5", x.part(1, 0, 5), 5);
        Check.holds("part 5 is", "(q>(p>F))".equals(Check.written(x, 1)));
        Check.due("its own numbers: q first", x.told(1, 0, 1), 1);
        Check.due("its own numbers: then p", x.told(1, 1, 1), 0);
        Check.due("its own numbers: then F", x.told(1, 2, 0), 1);
        Check.due("its own numbers: then -p", x.told(1, 3, 1), 1);
        Check.due("its own numbers: last itself", x.told(1, 4, 1), 0);
        Check.put(x, 2, "(q>-p)");
        Check.due("like the one that is read", x.count(3), 2);
        Check.due("the whole", x.part(3, 0, 6), 7);
        Check.due("the whole is like", x.count(3), 2);
        Check.due("onto the same", x.part(0, 0, 2), 3);
        Check.holds("onto the same is", "(p|q)".equals(Check.written(x, 0)));
        Check.due("onto the same, an atom", x.part(0, 0, 1), 1);
        Check.due("is q", x.sign(0, 0), 'q');
        StrictSentences deep = Check.holding("p");
        for (int i = 2; i <= 11; i++) {
            Check.due("doubled", deep.make(0, 0, 0, 0), i);
        }
        for (int k = 0; k < 11; k++) {
            Check.due("part of doubled", deep.part(1, 0, k), k + 1);
            Check.due("signs of doubled", deep.sign(1, -1), (1 << (k + 2)) - 3);
        }
    }

    private static void sign() {
        String[] texts = {"p", "q", "r", "s", "F", "-p", "(p&q)", "(p|q)", "(p>q)", "((p&-q)|(r>s))", "--F"};
        String[] wants = {"p", "q", "r", "s", "F", "(p>F)", "(p&q)", "(p|q)", "(p>q)",
                "((p&(q>F))|(r>s))", "((F>F)>F)"};
        for (int i = 0; i < texts.length; i++) {
            StrictSentences x = Check.holding(texts[i]);
            Check.due("signs of " + texts[i], x.sign(0, -1), wants[i].length());
            for (int k = 0; k < wants[i].length(); k++) {
                Check.due("sign " + k + " of " + texts[i], x.sign(0, k), wants[i].charAt(k));
            }
        }
    }

    private static void told() {
        StrictSentences x = Check.holding("((p&q)|-(r>s))");
        int[][] want = {
            {0, 0, StrictSentences.NONE}, {0, 1, StrictSentences.NONE}, {2, 0, 1},
            {0, 2, StrictSentences.NONE}, {0, 3, StrictSentences.NONE}, {4, 3, 4},
            {1, StrictSentences.NONE, StrictSentences.NONE}, {4, 5, 6}, {3, 2, 7}};
        Check.due("parts", x.count(10), want.length);
        for (int k = 0; k < want.length; k++) {
            for (int what = 0; what < 3; what++) {
                Check.due("told " + k + " " + what, x.told(0, k, what), want[k][what]);
            }
        }
    }
}
