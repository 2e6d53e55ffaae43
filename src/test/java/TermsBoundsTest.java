/** The boundary cases that the terms name: texts, faults, parts and slots; what follows; worlds. */
public final class TermsBoundsTest {
    private static final int TERMS = Document.TERMS;
    private static final int MOST_SIGNS = 40;
    private static final String BEGINS = "(-Fpqrs";
    private static final String JOINS = "&|>";

    public static void main(String[] args) {
        Check.promise(TERMS, "An object is used for at most 512 calls", TermsBoundsTest::lastCall);
        Check.promise(TERMS, "bit k (of the value 1 shifted left by k) tells whether PART k is in it",
                TermsBoundsTest::firstAndLastBit);
        aboutTexts();
        aboutParts();
        aboutWhatFollows();
        aboutWorlds();
        Check.end();
    }

    private static void aboutTexts() {
        Check.promise(TERMS, "an ATOM: p, q, r or s; F;", TermsBoundsTest::shortestTexts);
        Check.promise(TERMS, "- A, which is the same SENTENCE as ( A > F )", TermsBoundsTest::notIsAPair);
        Check.promise(TERMS, "THE TEXT has up to 40 signs", TermsBoundsTest::longestText);
        Check.promise(TERMS, "no blanks", TermsBoundsTest::noBlanks);
        Check.promise(TERMS, "A FAULT is at the place (0 is the first sign) of the first sign that cannot stand there",
                TermsBoundsTest::eachSignAtEachPlace);
        Check.promise(TERMS, "whatever comes behind it", TermsBoundsTest::whateverComesBehind);
        Check.promise(TERMS, "if all signs can, and the text is not whole, behind the last one",
                TermsBoundsTest::behindTheLast);
    }

    private static void aboutParts() {
        Check.promise(TERMS, "all unlike SENTENCES of which it is made, itself too", TermsBoundsTest::likePartsOnce);
        Check.promise(TERMS, "(A and B of a pair; of - A: A and F)", TermsBoundsTest::partsOfNot);
        Check.promise(TERMS, "numbered from 0 on as they are first whole", TermsBoundsTest::firstWhole);
        Check.promise(TERMS, "F being there behind A", TermsBoundsTest::falseBehind);
        Check.promise(TERMS, "A SENTENCE is LARGE, if it has more than 11 PARTS", TermsBoundsTest::large);
        Check.promise(TERMS, "SLOTS 0 to 5 hold a SENTENCE each", TermsBoundsTest::allSlotsHold);
        Check.promise(TERMS, "or are empty (at first)", TermsBoundsTest::emptyAtFirst);
    }

    private static void aboutWhatFollows() {
        Check.promise(TERMS, "nothing is taken to be so merely because its contrary cannot be",
                TermsBoundsTest::notByContraries);
        Check.promise(TERMS, "A FOLLOWS from G, if it is in G", TermsBoundsTest::whatIsGiven);
        Check.promise(TERMS, "( A & B ), if A does and B does", TermsBoundsTest::bothGiveThePair);
        Check.promise(TERMS, "A, and B, if ( A & B ) does", TermsBoundsTest::thePairGivesBoth);
        Check.promise(TERMS, "( A | B ), if A does, or B does", TermsBoundsTest::eitherGivesOr);
        Check.promise(TERMS, "C, if ( A | B ) does, and C FOLLOWS from G with A, and from G with B",
                TermsBoundsTest::byCases);
        Check.promise(TERMS, "( A > B ), if B FOLLOWS from G with A", TermsBoundsTest::withAMore);
        Check.promise(TERMS, "B, if A does and ( A > B ) does", TermsBoundsTest::onceMore);
        Check.promise(TERMS, "any SENTENCE, if F does", TermsBoundsTest::fromFalse);
        Check.promise(TERMS, "by these alone, any number of times", TermsBoundsTest::manyTimes);
        Check.promise(TERMS, "It is PLAIN, if it FOLLOWS from nothing", TermsBoundsTest::plainIsFromNothing);
        Check.promise(TERMS, "if for each way to tell of all ATOMS whether they are true it is true",
                TermsBoundsTest::oneRowIsEnough);
        Check.promise(TERMS, "F is not; ( A & B ) is, if both are; ( A | B ), if either is; "
                + "( A > B ), if A is not, or B is", TermsBoundsTest::rowsOfEachKind);
    }

    private static void aboutWorlds() {
        Check.promise(TERMS, "all other PARTS, put together by |", TermsBoundsTest::othersTogether);
        Check.promise(TERMS, "(F, if there are none;", TermsBoundsTest::allPartsAreAWorld);
        Check.promise(TERMS, "if it has all PARTS that this has, and more", TermsBoundsTest::aboveIsMore);
        Check.promise(TERMS, "A WORLD REFUTES the SENTENCE, if that is not in it", TermsBoundsTest::refutes);
        Check.promise(TERMS, "0, or one more than the greatest HEIGHT of the WORLDS that are ABOVE it",
                TermsBoundsTest::heights);
    }

    private static void lastCall() {
        StrictSentences x = new StrictSentences();
        for (int calls = 0; calls < 504; calls += 42) {
            for (int i = 1; i <= MOST_SIGNS; i++) {
                Check.due("say", x.say('-'), i);
            }
            Check.due("read", x.read(0), StrictSentences.FAULT);
            Check.due("wipe", x.wipe(), MOST_SIGNS);
        }
        Check.due("call 507", Check.put(x, 5, "-p"), 3);
        Check.due("call 508", x.image(1), 1);
        Check.due("call 509", x.drop(5), 1);
        Check.due("call 510", x.restore(1), 1);
        Check.due("call 511", x.worlds(5, 0), 3);
        Check.due("call 512", x.fault(), MOST_SIGNS);
    }

    private static void firstAndLastBit() {
        StrictSentences x = Check.holding("---------p");
        Check.due("bit 0 is p", x.from(0, 1, 0), 1);
        Check.due("bit 1 is F", x.from(0, 2, 0), 1);
        Check.due("bit 2 is -p", x.from(0, 4 + 1, 1), 1);
        Check.due("bit 10 is the whole", x.from(0, 1024, 10), 1);
        Check.due("bit 10 with p", x.from(0, 1024 + 1, 1), 1);
        Check.due("bit 9 with p", x.from(0, 512 + 1, 1), 0);
        Check.due("the greatest world has bit 10", x.world(0, x.worlds(0, 0) - 1, 0) >> 10, 1);
    }

    private static void shortestTexts() {
        String signs = "pqrsF";
        for (int i = 0; i < signs.length(); i++) {
            StrictSentences x = new StrictSentences();
            Check.due("read " + signs.charAt(i), Check.put(x, 0, signs.substring(i, i + 1)), 1);
            Check.due("sign of " + signs.charAt(i), x.sign(0, 0), signs.charAt(i));
        }
    }

    private static void notIsAPair() {
        StrictSentences x = Check.holding("-p", "(p>F)", "-(q&-F)", "((q&(F>F))>F)");
        Check.due("unlike sentences", x.count(3), 2);
    }

    private static void longestText() {
        String text = "---(((p&q)&(p&q))|(((p&q)&(p&q))>(p&q)))";
        Check.due("signs of the text", text.length(), MOST_SIGNS);
        StrictSentences x = new StrictSentences();
        Check.due("40 signs are read", Check.put(x, 0, text), 10);
        Check.due("written out", Check.written(x, 0), "(((" + text.substring(3) + ">F)>F)>F)");
    }

    private static void noBlanks() {
        StrictSentences x = new StrictSentences();
        Check.due("a blank", x.say(' '), StrictSentences.OUTSIDE);
        Check.due("a sentence around it", Check.put(x, 0, "(p&q)"), 3);
    }

    /** What can stand behind each kind of beginning; the ! behind it never can. */
    private static void eachSignAtEachPlace() {
        String[] wantASentence = {"", "-", "--", "(", "((", "(-", "(p&", "(q|", "(F>", "(-p>", "((p&q)|", "(p&-", "-("};
        String[] wantAPairsSign = {"(p", "(q", "(r", "(s", "(F", "(-p", "((p&q)", "(p&(q", "-(p"};
        String[] wantAnEnd = {"(p&q", "(p|-q", "(p>F", "(p&(q|r)", "(p&((q|r)>s)", "-(p&q", "(p&--q"};
        String[] wantNothing = {"p", "F", "-p", "--s", "(p&q)", "-(p|q)", "((p>q)&r)"};
        allSigns(wantASentence, BEGINS);
        allSigns(wantAPairsSign, JOINS);
        allSigns(wantAnEnd, ")");
        allSigns(wantNothing, "");
    }

    private static void allSigns(String[] beginnings, String allowed) {
        for (String begin : beginnings) {
            for (char sign = 33; sign <= 126; sign++) {
                int place = begin.length() + (allowed.indexOf(sign) < 0 ? 0 : 1);
                fault(begin + sign + "!", place);
            }
        }
    }

    private static void fault(String text, int place) {
        StrictSentences x = new StrictSentences();
        Check.due("read of " + text, Check.put(x, 0, text), StrictSentences.FAULT);
        Check.due("fault of " + text, x.fault(), place);
    }

    private static void whateverComesBehind() {
        fault("x", 0);
        fault("xp", 0);
        fault(")(p&q)", 0);
        fault("(p&q)(p&q)", 5);
        fault("(p&&q)", 3);
        fault("(p))", 2);
        fault("!".repeat(MOST_SIGNS), 0);
        fault("(".repeat(MOST_SIGNS - 1) + ")", MOST_SIGNS - 1);
        fault("-".repeat(MOST_SIGNS - 2) + "p)", MOST_SIGNS - 1);
        fault("-".repeat(20) + "&" + "p".repeat(19), 20);
    }

    private static void behindTheLast() {
        fault("", 0);
        fault("-", 1);
        fault("(", 1);
        fault("(p", 2);
        fault("(p&", 3);
        fault("(p&q", 4);
        fault("-(p&q", 5);
        fault("((p&q)", 6);
        fault("-".repeat(MOST_SIGNS), MOST_SIGNS);
        fault("(".repeat(MOST_SIGNS), MOST_SIGNS);
        fault("(".repeat(MOST_SIGNS - 1) + "p", MOST_SIGNS);
    }

    private static void parts(String text, String... want) {
        StrictSentences x = new StrictSentences();
        Check.due("parts of " + text, Check.put(x, 0, text), want.length);
        for (int k = 0; k < want.length; k++) {
            x.part(1, 0, k);
            Check.due("part " + k + " of " + text, Check.written(x, 1), want[k]);
        }
        Check.due("no part more of " + text, x.part(1, 0, want.length), StrictSentences.OUTSIDE);
    }

    private static void likePartsOnce() {
        parts("p", "p");
        parts("(p&p)", "p", "(p&p)");
        parts("((p&p)|(p&p))", "p", "(p&p)", "((p&p)|(p&p))");
        parts("((p&q)|(q&p))", "p", "q", "(p&q)", "(q&p)", "((p&q)|(q&p))");
        parts("((p|q)&(p>q))", "p", "q", "(p|q)", "(p>q)", "((p|q)&(p>q))");
    }

    private static void partsOfNot() {
        parts("-p", "p", "F", "(p>F)");
        parts("-F", "F", "(F>F)");
        parts("(-p&(p>F))", "p", "F", "(p>F)", "((p>F)&(p>F))");
    }

    private static void firstWhole() {
        parts("(s&(r|(q>p)))", "s", "r", "q", "p", "(q>p)", "(r|(q>p))", "(s&(r|(q>p)))");
        parts("(((s>r)&q)|p)", "s", "r", "(s>r)", "q", "((s>r)&q)", "p", "(((s>r)&q)|p)");
        parts("((q&p)>(p&(q&p)))", "q", "p", "(q&p)", "(p&(q&p))", "((q&p)>(p&(q&p)))");
    }

    private static void falseBehind() {
        parts("-(p&q)", "p", "q", "(p&q)", "F", "((p&q)>F)");
        parts("--p", "p", "F", "(p>F)", "((p>F)>F)");
        parts("(F|-p)", "F", "p", "(p>F)", "(F|(p>F))");
        parts("(-p|q)", "p", "F", "(p>F)", "q", "((p>F)|q)");
    }

    private static void large() {
        for (int nots = 1; nots <= 39; nots++) {
            StrictSentences x = new StrictSentences();
            int due = nots + 2 <= 11 ? nots + 2 : StrictSentences.FULL;
            Check.due("read of " + nots + " times -", Check.put(x, 0, "-".repeat(nots) + "p"), due);
        }
        StrictSentences x = Check.holding("(((p&q)|(r>s))>((q&p)|s))", "p", "(p>r)");
        Check.due("10 parts", x.count(10), 10);
        Check.due("made, 11 parts", x.make(3, 0, 1, 0), 11);
        Check.due("made, 12 parts", x.make(3, 0, 2, 0), StrictSentences.FULL);
        Check.due("followed, 11 parts", x.follows(0, 1), 0);
        Check.due("followed, 12 parts", x.follows(0, 2), StrictSentences.FULL);
    }

    private static void allSlotsHold() {
        String[] texts = {"p", "q", "r", "s", "F", "-F"};
        StrictSentences x = Check.holding(texts);
        Check.due("unlike sentences", x.count(3), 6);
        String[] written = {"p", "q", "r", "s", "F", "(F>F)"};
        for (int s = 0; s < 6; s++) {
            Check.due("slot " + s, Check.written(x, s), written[s]);
        }
        Check.due("there is no slot 6", x.drop(6), StrictSentences.UNKNOWN);
        Check.due("there is no slot -1", x.drop(-1), StrictSentences.UNKNOWN);
    }

    private static void emptyAtFirst() {
        StrictSentences x = new StrictSentences();
        for (int s = 0; s < 6; s++) {
            Check.due("plain " + s, x.plain(s), StrictSentences.STATE);
        }
    }

    private static void notByContraries() {
        String[] texts = {"(--p>p)", "(p|-p)", "(((p>q)>p)>p)", "(-p|--p)", "((-q>-p)>(p>q))", "(-(-p&-q)>(p|q))"};
        for (String text : texts) {
            Check.due("plain " + text, Check.holding(text).plain(0), 0);
        }
        Check.due("p from --p", Check.holding("--p", "p").follows(0, 1), 0);
        Check.due("but -p from ---p", Check.holding("---p", "-p").follows(0, 1), 1);
        Check.due("and --p from p", Check.holding("p", "--p").follows(0, 1), 1);
    }

    /** Whether a PART of a SENTENCE FOLLOWS from other PARTS of it, each told as it is written out. */
    private static void from(int due, String whole, String goal, String... given) {
        int set = 0;
        for (String part : given) {
            set |= 1 << Check.numberOf(part, whole);
        }
        int k = Check.numberOf(goal, whole);
        Check.due("from " + String.join(", ", given) + " " + goal, Check.holding(whole).from(0, set, k), due);
    }

    private static void whatIsGiven() {
        StrictSentences x = Check.holding("(((p&q)|(r>s))>((q&p)|(s>r)))");
        for (int k = 0; k < 11; k++) {
            Check.due("from itself, part " + k, x.from(0, 1 << k, k), 1);
            Check.due("from all, part " + k, x.from(0, 2047, k), 1);
            Check.due("from nothing, part " + k, x.from(0, 0, k), 0);
        }
    }

    private static void bothGiveThePair() {
        from(1, "(p&q)", "(p&q)", "p", "q");
        from(0, "(p&q)", "(p&q)", "p");
        from(0, "(p&q)", "(p&q)", "q");
    }

    private static void thePairGivesBoth() {
        from(1, "(p&q)", "p", "(p&q)");
        from(1, "(p&q)", "q", "(p&q)");
        from(0, "(p&q)", "q", "p");
    }

    private static void eitherGivesOr() {
        from(1, "(p|q)", "(p|q)", "p");
        from(1, "(p|q)", "(p|q)", "q");
        from(0, "(p|q)", "(p|q)");
        from(0, "(p|q)", "p", "(p|q)");
        from(0, "(p|q)", "q", "(p|q)");
    }

    private static void byCases() {
        String whole = "((p|q)>((p>r)>((q>r)>r)))";
        from(1, whole, "r", "(p|q)", "(p>r)", "(q>r)");
        from(0, whole, "r", "(p>r)", "(q>r)");
        from(0, whole, "r", "(p|q)", "(p>r)");
        from(0, whole, "r", "(p|q)", "(q>r)");
        from(1, whole, whole);
    }

    private static void withAMore() {
        from(1, "(p>(q>p))", "(p>(q>p))");
        from(1, "(p>(q>p))", "(q>p)", "p");
        from(0, "(p>(q>p))", "(q>p)");
        from(0, "(p>(q>p))", "(q>p)", "q");
        from(1, "(p>p)", "(p>p)");
    }

    private static void onceMore() {
        from(1, "(p>q)", "q", "p", "(p>q)");
        from(0, "(p>q)", "q", "p");
        from(0, "(p>q)", "q", "(p>q)");
        from(0, "(p>q)", "p", "q", "(p>q)");
    }

    private static void fromFalse() {
        StrictSentences x = Check.holding("(((p&q)|-r)>(s&q))");
        int f = Check.numberOf("F", "(((p&q)|(r>F))>(s&q))");
        for (int k = 0; k < x.count(10); k++) {
            Check.due("from F, part " + k, x.from(0, 1 << f, k), 1);
        }
        from(1, "((p>F)&q)", "q", "p", "(p>F)");
        Check.due("q from F", Check.holding("F", "q").follows(0, 1), 1);
        Check.due("q from (p&-p)", Check.holding("(p&-p)", "q").follows(0, 1), 1);
        Check.due("q from -p", Check.holding("-p", "q").follows(0, 1), 0);
    }

    private static void manyTimes() {
        String chain = "((p>q)>((q>r)>((r>s)>(p>s))))";
        from(1, chain, "s", "p", "(p>q)", "(q>r)", "(r>s)");
        from(0, chain, "s", "p", "(p>q)", "(r>s)");
        from(1, chain, "(p>s)", "(p>q)", "(q>r)", "(r>s)");
        Check.due("plain chain", Check.holding(chain).plain(0), 1);
        Check.due("--(p|-p) needs what is not a part of p", Check.holding("--(p|-p)").plain(0), 1);
    }

    private static void plainIsFromNothing() {
        String[] texts = {"p", "(p>p)", "(p|-p)", "--(p|-p)", "F", "-F", "(p>(q>p))"};
        for (String text : texts) {
            StrictSentences x = Check.holding(text);
            Check.due("from nothing " + text, x.from(0, 0, x.count(10) - 1), x.plain(0));
        }
    }

    private static void oneRowIsEnough() {
        for (int row = 0; row < 16; row++) {
            String text = falseInOne(row);
            Check.due("rows " + text, Check.holding(text).rows(0), 0);
            String other = "(" + text + "|-" + text + ")";
            Check.due("rows " + other, Check.holding(other).rows(0), 1);
        }
    }

    /** If all that is true in this row is, then something that is not: true in the other 15 rows. */
    private static String falseInOne(int row) {
        String all = "";
        String any = "";
        for (int atom = 0; atom < 4; atom++) {
            String sign = "pqrs".substring(atom, atom + 1);
            if ((row >> atom & 1) != 0) {
                all = all.isEmpty() ? sign : "(" + all + "&" + sign + ")";
            } else {
                any = any.isEmpty() ? sign : "(" + any + "|" + sign + ")";
            }
        }
        return all.isEmpty() ? any : "(" + all + ">" + (any.isEmpty() ? "F" : any) + ")";
    }

    private static void rowsOfEachKind() {
        String[] isTrue = {"-F", "(-F&-F)", "(-F|F)", "(F|-F)", "(-F|-F)", "(F>F)", "(F>-F)", "(-F>-F)"};
        String[] isNot = {"F", "(F&F)", "(F&-F)", "(-F&F)", "(F|F)", "(-F>F)", "p", "q", "r", "s"};
        for (String text : isTrue) {
            Check.due("rows " + text, Check.holding(text).rows(0), 1);
        }
        for (String text : isNot) {
            Check.due("rows " + text, Check.holding(text).rows(0), 0);
        }
    }

    /** PARTS of (p|q): 0 p, 1 q, 2 itself. */
    private static void othersTogether() {
        StrictSentences x = Check.holding("(p|q)");
        int[] sets = {0, 1 + 4, 2 + 4, 1 + 2 + 4};
        Check.due("{(p|q)} alone is none: either p or q is known with it", x.worlds(0, 0), sets.length);
        for (int i = 0; i < sets.length; i++) {
            Check.due("world " + i, x.world(0, i, 0), sets[i]);
        }
    }

    private static void allPartsAreAWorld() {
        String[] texts = {"p", "(p&q)", "(p|(q>r))", "(((p&q)|(r>s))>((q&p)|(s>r)))"};
        for (String text : texts) {
            StrictSentences x = Check.holding(text);
            int all = (1 << x.count(10)) - 1;
            Check.due("the last world of " + text, x.world(0, x.worlds(0, 0) - 1, 0), all);
        }
        StrictSentences x = Check.holding("F");
        Check.due("worlds of F", x.worlds(0, 0), 1);
        Check.due("F itself is in none", x.world(0, 0, 0), 0);
    }

    /** PARTS of (p&q): 0 p, 1 q, 2 itself; WORLDS {}, {p}, {q}, all. */
    private static void aboveIsMore() {
        StrictSentences x = Check.holding("(p&q)");
        Check.due("above {}", x.world(0, 0, 1), 3);
        Check.due("above {p}: neither itself nor {q}", x.world(0, 1, 1), 1);
        Check.due("above {q}: neither itself nor {p}", x.world(0, 2, 1), 1);
        Check.due("above all", x.world(0, 3, 1), 0);
    }

    private static void refutes() {
        Check.due("none refutes (p>p)", Check.holding("(p>p)").worlds(0, 1), 0);
        Check.due("all refute F", Check.holding("F").worlds(0, 1), 1);
        Check.due("{} and {p} refute (p>q)", Check.holding("(p>q)").worlds(0, 1), 2);
        Check.due("all but one refute (p&q)", Check.holding("(p&q)").worlds(0, 1), 3);
    }

    /** PARTS of (p>q): 0 p, 1 q, 2 itself; {p} has height 1, {(p>q)} 2, and {} the greater and one. */
    private static void heights() {
        StrictSentences x = Check.holding("(p>q)");
        int[] sets = {0, 1, 4, 6, 7};
        int[] heights = {3, 1, 2, 1, 0};
        for (int i = 0; i < sets.length; i++) {
            Check.due("world " + i, x.world(0, i, 0), sets[i]);
            Check.due("height of world " + i, x.world(0, i, 2), heights[i]);
        }
        StrictSentences y = Check.holding("(((s>r)>(q>p))>((r>p)>(q>s)))");
        Check.due("each part by itself makes a world higher", y.worlds(0, 4), 11);
    }
}
