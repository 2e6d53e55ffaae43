/** Promises 11 to 14, ordinary inputs; their boundary cases stand in FollowsBoundsTest. */
public final class FollowsTest {
    private static final String[] PLAIN = {
        "(p>p)", "-F", "(F>p)", "(p>(q>p))", "((p>(q>r))>((p>q)>(p>r)))", "((p&q)>p)", "((p&q)>q)",
        "(p>(q>(p&q)))", "(p>(p|q))", "(q>(p|q))", "((p>r)>((q>r)>((p|q)>r)))", "--(p|-p)",
        "(p>--p)", "(---p>-p)", "-(p&-p)", "((p>q)>(-q>-p))", "((-p|q)>(p>q))", "(--(p&q)>--p)",
        "(-(p|q)>-p)", "((-p|-q)>-(p&q))", "--(--p>p)", "--(((p>q)>p)>p)", "(-p>(p>q))",
        "((p|q)>(-p>q))", "((p&(q|r))>((p&q)|(p&r)))"};
    private static final String[] BY_ROWS_ALONE = {
        "(p|-p)", "(--p>p)", "(((p>q)>p)>p)", "(-p|--p)", "((p>q)|(q>p))", "((-q>-p)>(p>q))",
        "(-(p&q)>(-p|-q))", "((p>q)>(-p|q))", "((-p>(q|r))>((-p>q)|(-p>r)))", "(p|(p>q))",
        "((p>(q|r))>((p>q)|(p>r)))", "(((p>q)>r)>((p>r)>r))", "((--p>p)>(p|-p))", "(-(-p&-q)>(p|q))"};
    private static final String[] NOT_BY_ROWS = {
        "p", "q", "r", "s", "F", "-p", "(p&q)", "(p|q)", "(p>q)", "(p|F)", "(p&-p)", "--p",
        "((p|q)>p)", "((p>q)>(q>p))", "(((p&q)&r)>s)", "(s>((p|q)|r))", "-(p|-p)", "-(p>p)"};

    public static void main(String[] args) {
        for (String text : PLAIN) {
            told(text, 1, 1);
        }
        for (String text : BY_ROWS_ALONE) {
            told(text, 0, 1);
        }
        for (String text : NOT_BY_ROWS) {
            told(text, 0, 0);
        }
        follows();
        from();
        Check.end();
    }

    private static void told(String text, int plain, int rows) {
        StrictSentences x = Check.holding(text);
        Check.due("plain " + text, x.plain(0), plain);
        Check.due("rows " + text, x.rows(0), rows);
        Check.due("follows from itself " + text, x.count(10) == 11 ? 1 : x.follows(0, 0), 1);
    }

    private static void follows() {
        pair("p", "p", 1, 1);
        pair("p", "q", 0, 0);
        pair("p", "--p", 1, 0);
        pair("-p", "---p", 1, 1);
        pair("(p&q)", "p", 1, 0);
        pair("(p&q)", "(q&p)", 1, 1);
        pair("p", "(p|q)", 1, 0);
        pair("F", "p", 1, 0);
        pair("F", "(p&-p)", 1, 1);
        pair("-(p|q)", "(-p&-q)", 1, 1);
        pair("(-p|-q)", "-(p&q)", 1, 0);
        pair("(p>q)", "(-q>-p)", 1, 0);
        pair("(p|q)", "-(-p&-q)", 1, 0);
        pair("((p>q)>p)", "p", 0, 1);
        pair("q", "(p>p)", 1, 0);
        pair("((p&q)>r)", "(p>(q>r))", 1, 1);
        pair("((p|q)>r)", "((p>r)&(q>r))", 1, 1);
    }

    private static void pair(String a, String b, int there, int back) {
        StrictSentences x = Check.holding(a, b);
        Check.due(b + " from " + a, x.follows(0, 1), there);
        Check.due(a + " from " + b, x.follows(1, 0), back);
        Check.due("nothing is held more", x.count(0), 2);
        Check.holds("the slots stay", Check.put(x, 2, a) == x.count(10) && Check.put(x, 3, b) == x.count(11));
        Check.due("no other sentences", x.count(3), a.equals(b) ? 1 : 2);
    }

    /** PARTS: 0 p, 1 q, 2 (p|q), 3 F, 4 -p, 5 ((p|q)&-p), 6 the whole. */
    private static void from() {
        StrictSentences x = Check.holding("(((p|q)&-p)>q)");
        Check.due("parts", x.count(10), 7);
        Check.due("from nothing the whole", x.from(0, 0, 6), 1);
        Check.due("from nothing p", x.from(0, 0, 0), 0);
        Check.due("from p p", x.from(0, 1, 0), 1);
        Check.due("from p (p|q)", x.from(0, 1, 2), 1);
        Check.due("from (p|q) q", x.from(0, 4, 1), 0);
        Check.due("from (p|q), -p q", x.from(0, 4 + 16, 1), 1);
        Check.due("from ((p|q)&-p) q", x.from(0, 32, 1), 1);
        Check.due("from ((p|q)&-p) -p", x.from(0, 32, 4), 1);
        Check.due("from p, -p F", x.from(0, 1 + 16, 3), 1);
        Check.due("from p, -p q", x.from(0, 1 + 16, 1), 1);
        Check.due("from F q", x.from(0, 8, 1), 1);
        Check.due("from q -p", x.from(0, 2, 4), 0);
        Check.due("from all F", x.from(0, 127, 3), 1);
        StrictSentences y = Check.holding("--(p|-p)");
        Check.due("from nothing --(p|-p)", y.from(0, 0, 5), 1);
        Check.due("from nothing (p|-p)", y.from(0, 0, 3), 0);
        Check.due("from -(p|-p) F", y.from(0, 16, 1), 1);
        StrictSentences z = Check.holding("(--p>p)");
        Check.due("from --p p", z.from(0, 8, 0), 0);
        Check.due("from the whole and --p p", z.from(0, 8 + 16, 0), 1);
    }
}
