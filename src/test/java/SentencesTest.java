/** Promises 1 to 10. */
public final class SentencesTest {
    private static final int[] NO_SLOTS = {-1, 6, 7, Integer.MIN_VALUE, Integer.MAX_VALUE};

    public static void main(String[] args) {
        aNewObject();
        say();
        wipe();
        read();
        readNumbersParts();
        largeTexts();
        faultPlaces();
        faultIsLeft();
        make();
        makeRefuses();
        part();
        partRefuses();
        sign();
        told();
        toldRefuses();
        drop();
        Check.end();
    }

    private static void aNewObject() {
        StrictSentences x = new StrictSentences();
        for (int what = 0; what <= 5; what++) {
            Check.due("new count " + what, x.count(what), 0);
        }
        for (int slot = 0; slot < 6; slot++) {
            Check.due("new parts", x.count(10 + slot), 0);
            Check.due("new sign", x.sign(slot, -1), StrictSentences.STATE);
            Check.due("new drop", x.drop(slot), 0);
        }
        Check.due("new fault", x.fault(), StrictSentences.NONE);
        Check.due("new wipe", x.wipe(), 0);
        Check.due("new restore 0", x.restore(0), StrictSentences.STATE);
        Check.due("new restore 1", x.restore(1), StrictSentences.STATE);
        StrictSentences other = Check.holding("p");
        Check.due("objects share nothing", new StrictSentences().count(0), 0);
        Check.due("objects keep their own", other.count(0), 1);
    }

    private static void say() {
        StrictSentences x = new StrictSentences();
        int[] outside = {32, 127, 0, -1, 128, 1000, Integer.MIN_VALUE, Integer.MAX_VALUE, 65536 + 'p'};
        for (int sign : outside) {
            Check.due("say " + sign, x.say(sign), StrictSentences.OUTSIDE);
        }
        Check.due("nothing was said", x.count(4), 0);
        Check.due("say 33", x.say(33), 1);
        Check.due("say 126", x.say(126), 2);
        for (int i = 3; i <= 40; i++) {
            Check.due("say " + i, x.say('('), i);
        }
        Check.due("say 41", x.say('('), StrictSentences.FULL);
        Check.due("OUTSIDE goes ahead of FULL", x.say(127), StrictSentences.OUTSIDE);
        Check.due("full text stays", x.count(4), 40);
    }

    private static void wipe() {
        StrictSentences x = new StrictSentences();
        Check.say(x, "(p&");
        Check.due("wipe", x.wipe(), 3);
        Check.due("wipe again", x.wipe(), 0);
        Check.due("wiped", x.count(4), 0);
        Check.due("read after wipe", Check.put(x, 0, "q"), 1);
        Check.due("no old sign is left", x.sign(0, 0), 'q');
    }

    private static void read() {
        StrictSentences x = new StrictSentences();
        Check.due("read", Check.put(x, 5, "(p&(q|r))"), 5);
        Check.due("the text is empty then", x.count(4), 0);
        Check.due("the slot holds it", x.count(15), 5);
        Check.due("read over it", Check.put(x, 5, "s"), 1);
        Check.due("the slot holds the new one", x.count(15), 1);
        Check.say(x, "x");
        for (int slot : NO_SLOTS) {
            Check.due("UNKNOWN ahead of FAULT " + slot, x.read(slot), StrictSentences.UNKNOWN);
        }
        Check.due("UNKNOWN tells no fault", x.fault(), StrictSentences.NONE);
        Check.due("FAULT", x.read(5), StrictSentences.FAULT);
        Check.due("FAULT leaves the text", x.count(4), 1);
        Check.due("FAULT leaves the slot", x.count(15), 1);
    }

    private static void readNumbersParts() {
        parts("p", "p");
        parts("F", "F");
        parts("-p", "p", "F", "(p>F)");
        parts("-F", "F", "(F>F)");
        parts("--p", "p", "F", "(p>F)", "((p>F)>F)");
        parts("(F|-p)", "F", "p", "(p>F)", "(F|(p>F))");
        parts("(p>F)", "p", "F", "(p>F)");
        parts("(-p&(p>F))", "p", "F", "(p>F)", "((p>F)&(p>F))");
        parts("(p&p)", "p", "(p&p)");
        parts("((q>p)|(p>q))", "q", "p", "(q>p)", "(p>q)", "((q>p)|(p>q))");
        parts("((p&q)>(p|(q&p)))", "p", "q", "(p&q)", "(q&p)", "(p|(q&p))", "((p&q)>(p|(q&p)))");
        parts("(s|(r&(q>-s)))", "s", "r", "q", "F", "(s>F)", "(q>(s>F))",
                "(r&(q>(s>F)))", "(s|(r&(q>(s>F))))");
    }

    private static void parts(String text, String... want) {
        StrictSentences x = new StrictSentences();
        Check.due("parts of " + text, Check.put(x, 0, text), want.length);
        for (int k = 0; k < want.length; k++) {
            x.part(1, 0, k);
            Check.holds("part " + k + " of " + text + " is " + want[k], want[k].equals(Check.written(x, 1)));
        }
        Check.due("no part more of " + text, x.part(1, 0, want.length), StrictSentences.OUTSIDE);
    }

    private static void largeTexts() {
        StrictSentences x = new StrictSentences();
        Check.due("11 parts", Check.put(x, 0, "---------p"), 11);
        Check.due("12 parts", Check.put(x, 0, "----------p"), StrictSentences.FULL);
        Check.due("FULL leaves the slot", x.count(10), 11);
        Check.due("FULL leaves the text", x.count(4), 11);
        Check.due("FULL tells no fault", x.fault(), StrictSentences.NONE);
        x.wipe();
        String deepest = "-".repeat(39);
        Check.due("41 parts", Check.put(x, 0, deepest + "q"), StrictSentences.FULL);
        x.wipe();
        Check.due("FAULT ahead of FULL", Check.put(x, 0, deepest + ")"), StrictSentences.FAULT);
        Check.due("fault behind many parts", x.fault(), 39);
        x.wipe();
        Check.due("like parts count once", Check.put(x, 1, "(((p&q)&(p&q))|(((p&q)&(p&q))>(p&q)))"), 6);
        Check.due("four atoms, 11 parts", Check.put(x, 2, "(((p&q)|(r>s))>((q&p)|(s>r)))"), 11);
        Check.due("a like pair more", Check.put(x, 3, "((((p&q)|(r>s))>((q&p)|(s>r)))&p)"), StrictSentences.FULL);
    }

    private static void faultPlaces() {
        fault("", 0);
        fault("(", 1);
        fault("-", 1);
        fault("(p", 2);
        fault("(p&", 3);
        fault("(p&q", 4);
        fault("-(p>q", 5);
        fault(")", 0);
        fault("&", 0);
        fault("x", 0);
        fault("f", 0);
        fault("P", 0);
        fault("t", 0);
        fault("o", 0);
        fault("~p", 0);
        fault("pq", 1);
        fault("p)", 1);
        fault("p&q", 1);
        fault("(p)", 2);
        fault("(pq", 2);
        fault("(p-q)", 2);
        fault("(p(q", 2);
        fault("(p&)", 3);
        fault("(p&&q)", 3);
        fault("(&p", 1);
        fault("()", 1);
        fault("(p&q&r)", 4);
        fault("(p&q))", 5);
        fault("(p&q)p", 5);
        fault("(p&q)-", 5);
        fault("((p&q)", 6);
        fault("((p&q))", 6);
        fault("-p-", 2);
        fault("--p)", 3);
        fault("(-p)", 3);
        fault("(p&-)", 4);
        fault("(p=q)", 2);
        fault("(p>q)x((", 5);
        fault("xx", 0);
        fault("(".repeat(40), 40);
        fault("(".repeat(39) + ")", 39);
        fault("-".repeat(40), 40);
    }

    private static void fault(String text, int place) {
        StrictSentences x = Check.holding("q");
        Check.due("read of " + text, Check.put(x, 0, text), StrictSentences.FAULT);
        Check.due("fault of " + text, x.fault(), place);
        Check.due("the slot stays", x.sign(0, 0), 'q');
        Check.due("wipe of " + text, x.wipe(), text.length());
    }

    private static void faultIsLeft() {
        StrictSentences x = new StrictSentences();
        Check.due("fault", Check.put(x, 0, "(p&&"), StrictSentences.FAULT);
        x.wipe();
        Check.due("fault after wipe", x.fault(), 3);
        Check.put(x, 0, "p");
        Check.due("fault after a read that tells none", x.fault(), 3);
        Check.due("large", Check.put(x, 0, "----------p"), StrictSentences.FULL);
        Check.due("fault after FULL", x.fault(), 3);
        x.image(0);
        x.wipe();
        Check.due("empty", x.read(0), StrictSentences.FAULT);
        Check.due("fault told last", x.fault(), 0);
        x.restore(0);
        Check.due("fault after restore", x.fault(), 0);
        Check.due("UNKNOWN", x.read(6), StrictSentences.UNKNOWN);
        Check.due("fault after UNKNOWN", x.fault(), 0);
    }

    private static void make() {
        made("p", "q", 0, "(p&q)", 3);
        made("p", "q", 1, "(p|q)", 3);
        made("p", "q", 2, "(p>q)", 3);
        made("q", "p", 2, "(q>p)", 3);
        made("p", "p", 0, "(p&p)", 2);
        made("p", "F", 2, "(p>F)", 3);
        made("(q>p)", "(p>q)", 1, "((q>p)|(p>q))", 5);
        made("-p", "-q", 0, "((p>F)&(q>F))", 6);
        made("(p&q)", "(r|(p&q))", 2, "((p&q)>(r|(p&q)))", 6);
        StrictSentences x = Check.holding("-p", "(p>q)");
        Check.due("make is like read", x.make(2, 0, 1, 1), Check.put(x, 3, "(-p|(p>q))"));
        Check.due("the made one is no other sentence", x.count(3), 3);
        Check.due("A keeps its numbers", x.told(2, 1, 0), 1);
        Check.due("B comes behind", x.told(2, 3, 1), 1);
        Check.due("q", x.told(2, 3, 0), 0);
        Check.due("(p>q) left", x.told(2, 4, 1), 0);
        Check.due("(p>q) right", x.told(2, 4, 2), 3);
        Check.due("make over a", x.make(0, 0, 1, 0), 6);
        Check.holds("made of what was there", "((p>F)&(p>q))".equals(Check.written(x, 0)));
        Check.due("make over b", x.make(1, 3, 1, 0), 7);
        Check.holds("made over b", "(((p>F)|(p>q))&(p>q))".equals(Check.written(x, 1)));
    }

    private static void made(String a, String b, int way, String want, int parts) {
        StrictSentences x = Check.holding(a, b);
        Check.due("make " + want, x.make(5, 0, 1, way), parts);
        Check.holds("made " + want, want.equals(Check.written(x, 5)));
        Check.holds("a stays", Check.put(x, 4, a) == x.count(10) && x.count(3) == (a.equals(b) ? 2 : 3));
    }

    private static void makeRefuses() {
        StrictSentences x = Check.holding("(((p&q)|(r>s))>((q&p)|(s>r)))", "p", "(((p&q)|(r>s))>((q&p)|s))");
        for (int slot : NO_SLOTS) {
            Check.due("make to " + slot, x.make(slot, 5, 5, 9), StrictSentences.UNKNOWN);
            Check.due("make a " + slot, x.make(0, slot, 5, 9), StrictSentences.UNKNOWN);
            Check.due("make b " + slot, x.make(0, 5, slot, 9), StrictSentences.UNKNOWN);
        }
        int[] ways = {-1, 3, 4, Integer.MIN_VALUE, Integer.MAX_VALUE};
        for (int way : ways) {
            Check.due("way ahead of STATE " + way, x.make(0, 5, 5, way), StrictSentences.OUTSIDE);
        }
        Check.due("a is empty, ahead of FULL", x.make(1, 5, 0, 0), StrictSentences.STATE);
        Check.due("b is empty", x.make(1, 0, 5, 0), StrictSentences.STATE);
        Check.due("12 parts", x.make(1, 0, 1, 0), StrictSentences.FULL);
        Check.due("many parts", x.make(1, 0, 0, 2), StrictSentences.FULL);
        Check.due("11 parts", x.make(3, 1, 2, 2), 11);
        Check.due("FULL leaves the slot", x.count(11), 1);
    }

    private static void part() {
        StrictSentences x = Check.holding("((p|q)&(q>-p))");
        Check.due("parts", x.count(10), 7);
        Check.due("part 5", x.part(1, 0, 5), 5);
        Check.holds("part 5 is", "(q>(p>F))".equals(Check.written(x, 1)));
        Check.due("its own numbers: q first", x.told(1, 0, 1), 1);
        Check.due("its own numbers: then p", x.told(1, 1, 1), 0);
        Check.due("its own numbers: then F", x.told(1, 2, 0), 1);
        Check.due("its own numbers: then -p", x.told(1, 3, 1), 1);
        Check.due("its own numbers: last itself", x.told(1, 4, 1), 0);
        Check.put(x, 2, "(q>-p)");
        Check.due("like the one that is read", x.count(3), 2);
        Check.due("the whole", x.part(3, 0, 6), 7);
        Check.due("the whole is like", x.count(3), 2);
        Check.due("onto the same", x.part(0, 0, 2), 3);
        Check.holds("onto the same is", "(p|q)".equals(Check.written(x, 0)));
        Check.due("onto the same, an atom", x.part(0, 0, 1), 1);
        Check.due("is q", x.sign(0, 0), 'q');
        StrictSentences deep = Check.holding("p");
        for (int i = 2; i <= 11; i++) {
            Check.due("doubled", deep.make(0, 0, 0, 0), i);
        }
        for (int k = 0; k < 11; k++) {
            Check.due("part of doubled", deep.part(1, 0, k), k + 1);
            Check.due("signs of doubled", deep.sign(1, -1), (1 << (k + 2)) - 3);
        }
    }

    private static void partRefuses() {
        StrictSentences x = Check.holding("(p|q)", "r");
        for (int slot : NO_SLOTS) {
            Check.due("part to " + slot, x.part(slot, 5, 9), StrictSentences.UNKNOWN);
            Check.due("part from " + slot, x.part(1, slot, 9), StrictSentences.UNKNOWN);
        }
        Check.due("STATE ahead of OUTSIDE", x.part(1, 5, 99), StrictSentences.STATE);
        Check.due("an empty to is no matter", x.part(4, 0, 0), 1);
        int[] outside = {-1, 3, 11, 32, Integer.MIN_VALUE, Integer.MAX_VALUE};
        for (int k : outside) {
            Check.due("part " + k, x.part(1, 0, k), StrictSentences.OUTSIDE);
        }
        Check.due("the slot stays", x.sign(1, 0), 'r');
    }

    private static void sign() {
        String[] texts = {"p", "q", "r", "s", "F", "-p", "(p&q)", "(p|q)", "(p>q)", "((p&-q)|(r>s))", "--F"};
        String[] wants = {"p", "q", "r", "s", "F", "(p>F)", "(p&q)", "(p|q)", "(p>q)",
                "((p&(q>F))|(r>s))", "((F>F)>F)"};
        for (int i = 0; i < texts.length; i++) {
            StrictSentences x = Check.holding(texts[i]);
            Check.due("signs of " + texts[i], x.sign(0, -1), wants[i].length());
            for (int k = 0; k < wants[i].length(); k++) {
                Check.due("sign " + k + " of " + texts[i], x.sign(0, k), wants[i].charAt(k));
            }
            Check.due("no sign more", x.sign(0, wants[i].length()), StrictSentences.NONE);
            Check.due("no such sign", x.sign(0, Integer.MAX_VALUE), StrictSentences.NONE);
        }
        StrictSentences x = Check.holding("p");
        for (int slot : NO_SLOTS) {
            Check.due("sign of " + slot, x.sign(slot, -2), StrictSentences.UNKNOWN);
        }
        Check.due("k below -1", x.sign(0, -2), StrictSentences.OUTSIDE);
        Check.due("least k", x.sign(0, Integer.MIN_VALUE), StrictSentences.OUTSIDE);
        Check.due("OUTSIDE ahead of STATE", x.sign(1, -2), StrictSentences.OUTSIDE);
        Check.due("STATE", x.sign(1, -1), StrictSentences.STATE);
        Check.due("STATE, no NONE", x.sign(1, 99), StrictSentences.STATE);
    }

    private static void told() {
        StrictSentences x = Check.holding("((p&q)|-(r>s))");
        int[][] want = {
            {0, 0, StrictSentences.NONE}, {0, 1, StrictSentences.NONE}, {2, 0, 1},
            {0, 2, StrictSentences.NONE}, {0, 3, StrictSentences.NONE}, {4, 3, 4},
            {1, StrictSentences.NONE, StrictSentences.NONE}, {4, 5, 6}, {3, 2, 7}};
        Check.due("parts", x.count(10), want.length);
        for (int k = 0; k < want.length; k++) {
            for (int what = 0; what < 3; what++) {
                Check.due("told " + k + " " + what, x.told(0, k, what), want[k][what]);
            }
        }
    }

    private static void toldRefuses() {
        StrictSentences x = Check.holding("(p>F)");
        for (int slot : NO_SLOTS) {
            Check.due("told of " + slot, x.told(slot, 9, 9), StrictSentences.UNKNOWN);
        }
        Check.due("STATE ahead of OUTSIDE", x.told(1, 9, 9), StrictSentences.STATE);
        int[] parts = {-1, 3, 32, Integer.MIN_VALUE, Integer.MAX_VALUE};
        for (int k : parts) {
            Check.due("no part " + k, x.told(0, k, 0), StrictSentences.OUTSIDE);
        }
        int[] whats = {-1, 3, Integer.MIN_VALUE, Integer.MAX_VALUE};
        for (int what : whats) {
            Check.due("of an atom " + what, x.told(0, 0, what), StrictSentences.OUTSIDE);
            Check.due("of F " + what, x.told(0, 1, what), StrictSentences.OUTSIDE);
            Check.due("of a pair " + what, x.told(0, 2, what), StrictSentences.OUTSIDE);
        }
    }

    private static void drop() {
        StrictSentences x = Check.holding("p", "q");
        Check.due("drop", x.drop(1), 1);
        Check.due("drop again", x.drop(1), 0);
        Check.due("dropped", x.plain(1), StrictSentences.STATE);
        Check.due("the other stays", x.sign(0, 0), 'p');
        for (int slot : NO_SLOTS) {
            Check.due("drop " + slot, x.drop(slot), StrictSentences.UNKNOWN);
        }
    }
}
