/** The boundary cases of promises 11 to 14: plain, rows, follows, from. */
public final class FollowsBoundsTest {
    private static final String ELEVEN_PARTS = "---------p";
    private static final String TEN_PARTS = "--------p";

    public static void main(String[] args) {
        promise11();
        promise12();
        promise13();
        promise14();
        Check.end();
    }

    private static void promise11() {
        Check.promise(11, "Whether the SENTENCE of a SLOT is PLAIN (1, 0)", FollowsBoundsTest::plainOrNot);
        Check.promise(11, "UNKNOWN", FollowsBoundsTest::plainUnknown);
        Check.promise(11, "STATE", FollowsBoundsTest::plainOfEmpty);
    }

    private static void promise12() {
        Check.promise(12, "Whether the SENTENCE of a SLOT is TRUE BY ROWS (1, 0)", FollowsBoundsTest::rowsOrNot);
        Check.promise(12, "UNKNOWN", FollowsBoundsTest::rowsUnknown);
        Check.promise(12, "STATE", FollowsBoundsTest::rowsOfEmpty);
    }

    private static void promise13() {
        Check.promise(13, "Whether the SENTENCE of SLOT b FOLLOWS from that of SLOT a alone (1, 0)",
                FollowsBoundsTest::oneFromTheOther);
        Check.promise(13, "UNKNOWN: both", FollowsBoundsTest::followsUnknown);
        Check.promise(13, "STATE: a or b is empty", FollowsBoundsTest::followsOfEmpty);
        Check.promise(13, "FULL: ( A > B ) of both would be LARGE", FollowsBoundsTest::followsFull);
    }

    private static void promise14() {
        Check.promise(14, "Whether PART k of the SENTENCE of a SLOT FOLLOWS from a set of PARTS of it (1, 0)",
                FollowsBoundsTest::fromLeastAndGreatestSets);
        Check.promise(14, "UNKNOWN", FollowsBoundsTest::fromUnknown);
        Check.promise(14, "STATE", FollowsBoundsTest::fromOfEmpty);
        Check.promise(14, "OUTSIDE: there is no such PART", FollowsBoundsTest::fromNoSuchPart);
        Check.promise(14, "or one of the set is not", FollowsBoundsTest::fromNoSuchSet);
    }

    private static void plain(String text, int due) {
        for (int slot = 0; slot < 6; slot += 5) {
            StrictSentences x = new StrictSentences();
            Check.put(x, slot, text);
            Check.due("plain " + text + " in slot " + slot, x.plain(slot), due);
            Check.due("asked again", x.plain(slot), due);
        }
    }

    private static void plainOrNot() {
        plain("p", 0);
        plain("F", 0);
        plain("-F", 1);
        plain("(p>p)", 1);
        plain("(p|-p)", 0);
        plain("--(p|-p)", 1);
        plain(ELEVEN_PARTS, 0);
        // the greatest that are allowed, with 11 parts
        plain("((p>(q>r))>((p>q)>(p>(r|s))))", 1);
        plain("((p>(q|r))>((p>q)|(p>(r|s))))", 0);
        StrictSentences x = Check.holding("(p>p)");
        Check.put(x, 0, "p");
        Check.due("of what is read over it", x.plain(0), 0);
    }

    private static void plainUnknown() {
        StrictSentences x = Check.holding("(p>p)");
        for (int slot : Check.NO_SLOTS) {
            Check.due("plain " + slot, x.plain(slot), StrictSentences.UNKNOWN);
        }
    }

    private static void plainOfEmpty() {
        StrictSentences x = Check.holding("(p>p)");
        Check.due("before", x.plain(0), 1);
        x.drop(0);
        for (int slot = 0; slot < 6; slot++) {
            Check.due("plain " + slot, x.plain(slot), StrictSentences.STATE);
        }
    }

    private static void rows(String text, int due) {
        for (int slot = 0; slot < 6; slot += 5) {
            StrictSentences x = new StrictSentences();
            Check.put(x, slot, text);
            Check.due("rows " + text + " in slot " + slot, x.rows(slot), due);
        }
    }

    private static void rowsOrNot() {
        rows("p", 0);
        rows("F", 0);
        rows("-F", 1);
        rows("(p|-p)", 1);
        rows("(((p|q)|r)|s)", 0);
        rows("-(((p&q)&r)&s)", 0);
        rows("((((p|q)|r)|s)|-p)", 1);
        rows(ELEVEN_PARTS, 0);
        rows("((p>(q|r))>((p>q)|(p>(r|s))))", 1);
    }

    private static void rowsUnknown() {
        StrictSentences x = Check.holding("(p>p)");
        for (int slot : Check.NO_SLOTS) {
            Check.due("rows " + slot, x.rows(slot), StrictSentences.UNKNOWN);
        }
    }

    private static void rowsOfEmpty() {
        StrictSentences x = Check.holding("(p>p)");
        Check.due("before", x.rows(0), 1);
        x.drop(0);
        for (int slot = 0; slot < 6; slot++) {
            Check.due("rows " + slot, x.rows(slot), StrictSentences.STATE);
        }
    }

    private static void oneFromTheOther() {
        StrictSentences x = Check.holding("(p&q)", "p", "F", "-F", "--p", "r");
        Check.due("p from (p&q)", x.follows(0, 1), 1);
        Check.due("(p&q) from p", x.follows(1, 0), 0);
        Check.due("each from itself", x.follows(1, 1), 1);
        Check.due("F from itself", x.follows(2, 2), 1);
        Check.due("all from F", x.follows(2, 5), 1);
        Check.due("F from p", x.follows(1, 2), 0);
        Check.due("-F from all", x.follows(5, 3), 1);
        Check.due("F from -F", x.follows(3, 2), 0);
        Check.due("--p from p", x.follows(1, 4), 1);
        Check.due("p from --p", x.follows(4, 1), 0);
        x.make(0, 1, 5, 2);
        Check.due("r from (p>r) alone, though p is held too", x.follows(0, 5), 0);
        Check.due("nothing more is held", x.count(0), 6);
    }

    private static void followsUnknown() {
        StrictSentences x = Check.holding("p");
        for (int slot : Check.NO_SLOTS) {
            Check.due("a " + slot, x.follows(slot, 0), StrictSentences.UNKNOWN);
            Check.due("b " + slot, x.follows(0, slot), StrictSentences.UNKNOWN);
            Check.due("both " + slot, x.follows(slot, slot), StrictSentences.UNKNOWN);
        }
    }

    private static void followsOfEmpty() {
        StrictSentences x = Check.holding("p", "(p>p)");
        Check.due("a", x.follows(2, 1), StrictSentences.STATE);
        Check.due("b", x.follows(1, 2), StrictSentences.STATE);
        Check.due("both", x.follows(2, 2), StrictSentences.STATE);
        x.drop(0);
        Check.due("a was dropped", x.follows(0, 1), StrictSentences.STATE);
    }

    private static void followsFull() {
        StrictSentences x = Check.holding(ELEVEN_PARTS, "p", TEN_PARTS, "q");
        Check.due("12 parts", x.follows(0, 1), StrictSentences.FULL);
        Check.due("12 parts, the other way", x.follows(1, 0), StrictSentences.FULL);
        Check.due("12 parts, of itself", x.follows(0, 0), StrictSentences.FULL);
        Check.due("12 parts, with an atom more", x.follows(2, 3), StrictSentences.FULL);
        Check.due("11 parts", x.follows(1, 2), 1);
        Check.due("11 parts, the other way", x.follows(2, 1), 0);
        Check.due("11 parts, of itself", x.follows(2, 2), 1);
        StrictSentences y = Check.holding("(((p>q)>r)>s)", "(((q>p)>s)>r)");
        Check.due("11 parts of two", y.follows(0, 1), 0);
        y.make(0, 0, 0, 0);
        Check.due("12 parts of two", y.follows(0, 1), StrictSentences.FULL);
    }

    /** PARTS of ELEVEN_PARTS: 0 p, 1 F, 2 -p, 3 --p and so on; 10 is -p nine times told. */
    private static void fromLeastAndGreatestSets() {
        StrictSentences x = Check.holding(ELEVEN_PARTS);
        for (int k = 0; k <= 10; k++) {
            Check.due("from the empty set, part " + k, x.from(0, 0, k), 0);
            Check.due("from the greatest set, part " + k, x.from(0, 2047, k), 1);
            Check.due("from part 10 alone, part " + k, x.from(0, 1024, k), k > 0 && k % 2 == 0 ? 1 : 0);
            Check.due("from part 0 alone, part " + k, x.from(0, 1, k), k == 0 || k > 1 && k % 2 == 1 ? 1 : 0);
        }
        StrictSentences y = Check.holding("p");
        Check.due("of one part, from the empty set", y.from(0, 0, 0), 0);
        Check.due("of one part, from the greatest", y.from(0, 1, 0), 1);
        StrictSentences z = Check.holding("(p>p)");
        Check.due("a plain one from the empty set", z.from(0, 0, 1), 1);
    }

    private static void fromUnknown() {
        StrictSentences x = Check.holding("p");
        for (int slot : Check.NO_SLOTS) {
            Check.due("from " + slot, x.from(slot, 0, 0), StrictSentences.UNKNOWN);
        }
    }

    private static void fromOfEmpty() {
        StrictSentences x = Check.holding("p");
        x.drop(0);
        for (int slot = 0; slot < 6; slot++) {
            Check.due("from " + slot, x.from(slot, 0, 0), StrictSentences.STATE);
        }
    }

    private static void fromNoSuchPart() {
        StrictSentences x = Check.holding("(p&q)", ELEVEN_PARTS);
        int[] outside = {-1, 3, 11, 32, 34, Check.LEAST, Check.GREATEST};
        for (int k : outside) {
            Check.due("part " + k + " of three", x.from(0, 0, k), StrictSentences.OUTSIDE);
        }
        Check.due("part 2 of three", x.from(0, 7, 2), 1);
        Check.due("part 10 of eleven", x.from(1, 0, 10), 0);
        Check.due("part 11 of eleven", x.from(1, 0, 11), StrictSentences.OUTSIDE);
    }

    private static void fromNoSuchSet() {
        StrictSentences x = Check.holding("(p&q)", ELEVEN_PARTS, "s");
        int[] sets = {8, 9, 15, 16, 2048, 1 << 30, -1, -8, Check.LEAST, Check.LEAST + 1, Check.GREATEST};
        for (int set : sets) {
            Check.due("set " + set + " of three", x.from(0, set, 0), StrictSentences.OUTSIDE);
        }
        Check.due("set 7 of three", x.from(0, 7, 0), 1);
        Check.due("set 2047 of eleven", x.from(1, 2047, 0), 1);
        Check.due("set 2048 of eleven", x.from(1, 2048, 0), StrictSentences.OUTSIDE);
        Check.due("set 4095 of eleven", x.from(1, 4095, 0), StrictSentences.OUTSIDE);
        Check.due("set 1 of one", x.from(2, 1, 0), 1);
        Check.due("set 2 of one", x.from(2, 2, 0), StrictSentences.OUTSIDE);
        Check.due("both part and set", x.from(2, 2, 1), StrictSentences.OUTSIDE);
    }
}
