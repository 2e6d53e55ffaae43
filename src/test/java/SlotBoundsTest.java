/** The boundary cases of promises 6 to 10: make, part, sign, told, drop. */
public final class SlotBoundsTest {
    private static final int NONE = StrictSentences.NONE;
    private static final String TEN_PARTS = "(((p&q)|(r>s))>((q&p)|s))";
    private static final String ELEVEN_PARTS = "(((p&q)|(r>s))>((q&p)|(s>r)))";

    public static void main(String[] args) {
        promise6();
        promise7();
        promise8();
        promise9();
        promise10();
        Check.end();
    }

    private static void promise6() {
        Check.promise(6, "made of those of two SLOTS (or one), a first", SlotBoundsTest::madeOfTwoOrOne);
        Check.promise(6, "a first", SlotBoundsTest::partsOfBComeBehind);
        Check.promise(6, "way 0 &, 1 |, 2 >", SlotBoundsTest::madeEachWay);
        Check.promise(6, "how many PARTS it has", SlotBoundsTest::makeTellsParts);
        Check.promise(6, "UNKNOWN: all three", SlotBoundsTest::makeUnknown);
        Check.promise(6, "OUTSIDE: way", SlotBoundsTest::makeOutside);
        Check.promise(6, "STATE: a or b is empty", SlotBoundsTest::makeOfEmpty);
        Check.promise(6, "FULL: it would be LARGE", SlotBoundsTest::makeFull);
    }

    private static void promise7() {
        Check.promise(7, "A SLOT holds PART k of the SENTENCE of another one", SlotBoundsTest::eachPart);
        Check.promise(7, "(or the same)", SlotBoundsTest::partOntoTheSame);
        Check.promise(7, "how many PARTS that has", SlotBoundsTest::partTellsParts);
        Check.promise(7, "UNKNOWN: both", SlotBoundsTest::partUnknown);
        Check.promise(7, "STATE: from is empty", SlotBoundsTest::partOfEmpty);
        Check.promise(7, "OUTSIDE: there is no such PART", SlotBoundsTest::noSuchPart);
    }

    private static void promise8() {
        Check.promise(8, "The k-th sign, from 0 on", SlotBoundsTest::signsOfTheLongest);
        Check.promise(8, "written out with ( A > F ) for - A", SlotBoundsTest::signsOfNot);
        Check.promise(8, "k = -1: how many signs", SlotBoundsTest::howManySigns);
        Check.promise(8, "NONE: there is none such", SlotBoundsTest::noSuchSign);
        Check.promise(8, "UNKNOWN", SlotBoundsTest::signUnknown);
        Check.promise(8, "OUTSIDE: k is below -1", SlotBoundsTest::signOutside);
        Check.promise(8, "STATE", SlotBoundsTest::signOfEmpty);
    }

    private static void promise9() {
        Check.promise(9, "0 an ATOM, 1 F, 2 &, 3 |, 4 > (what = 0)", SlotBoundsTest::toldKinds);
        Check.promise(9, "the numbers of A (1) and of B (2)", SlotBoundsTest::toldNumbers);
        Check.promise(9, "of an ATOM which it is, 0 p to 3 s (1)", SlotBoundsTest::toldAtoms);
        Check.promise(9, "NONE, if there is nothing to tell", SlotBoundsTest::nothingToTell);
        Check.promise(9, "UNKNOWN", SlotBoundsTest::toldUnknown);
        Check.promise(9, "STATE", SlotBoundsTest::toldOfEmpty);
        Check.promise(9, "OUTSIDE: there is no such PART", SlotBoundsTest::toldNoSuchPart);
        Check.promise(9, "or what is not 0 to 2 (ahead of NONE)", SlotBoundsTest::toldNoSuchWhat);
    }

    private static void promise10() {
        Check.promise(10, "A SLOT is empty", SlotBoundsTest::droppedIsEmpty);
        Check.promise(10, "whether it was not (1, 0)", SlotBoundsTest::dropTellsWhetherItHeld);
        Check.promise(10, "UNKNOWN", SlotBoundsTest::dropUnknown);
    }

    private static void madeOfTwoOrOne() {
        StrictSentences x = Check.holding("p", "q");
        x.make(2, 0, 1, 2);
        Check.due("of two", Check.written(x, 2), "(p>q)");
        x.make(2, 1, 0, 2);
        Check.due("a first", Check.written(x, 2), "(q>p)");
        x.make(3, 0, 0, 2);
        Check.due("of one", Check.written(x, 3), "(p>p)");
        Check.due("a and b are left", Check.written(x, 0) + Check.written(x, 1), "pq");
        x.make(0, 0, 1, 0);
        Check.due("onto a", Check.written(x, 0), "(p&q)");
        x.make(1, 0, 1, 0);
        Check.due("onto b", Check.written(x, 1), "((p&q)&q)");
        x.make(1, 1, 1, 1);
        Check.due("onto both", Check.written(x, 1), "(((p&q)&q)|((p&q)&q))");
        x.make(5, 3, 2, 0);
        Check.due("into an empty one", Check.written(x, 5), "((p>p)&(q>p))");
    }

    /** The PARTS of B come to stand behind those of A, under other numbers than they had. */
    private static void partsOfBComeBehind() {
        String[] others = {"(p&q)", "(p|q)", "(p>q)", "-p", "((p&q)|(p>q))", "((q|p)&(q>p))"};
        for (String other : others) {
            StrictSentences x = Check.holding("r", other);
            x.make(2, 0, 1, 2);
            Check.due("made", Check.written(x, 2), "(r>" + Check.written(x, 1) + ")");
            Check.put(x, 3, "(r>" + other + ")");
            Check.due("like the one that is read", x.count(3), 3);
        }
    }

    private static void madeEachWay() {
        String[] want = {"(p&q)", "(p|q)", "(p>q)"};
        for (int way = 0; way < want.length; way++) {
            StrictSentences x = Check.holding("p", "q");
            Check.due("way " + way, x.make(5, 0, 1, way), 3);
            Check.due("made by way " + way, Check.written(x, 5), want[way]);
            Check.put(x, 4, want[way]);
            Check.due("like the one that is read", x.count(3), 3);
        }
    }

    private static void makeTellsParts() {
        StrictSentences x = Check.holding("p");
        for (int parts = 2; parts <= 11; parts++) {
            Check.due("of one and the same", x.make(0, 0, 0, 0), parts);
            Check.due("parts of the slot", x.count(10), parts);
        }
        StrictSentences y = Check.holding("-p", "-q", "(p>F)");
        Check.due("F is a part of both", y.make(3, 0, 1, 0), 6);
        Check.due("like ones", y.make(3, 0, 2, 0), 4);
        Check.due("B is a part of A", y.make(4, 3, 0, 2), 5);
        Check.due("A is a part of B", y.make(5, 0, 3, 2), 5);
        Check.due("one that is held already", Check.holding("(p&q)", "p", "q").make(3, 1, 2, 0), 3);
    }

    private static void makeUnknown() {
        StrictSentences x = Check.holding("p");
        for (int slot : Check.NO_SLOTS) {
            Check.due("to " + slot, x.make(slot, 0, 0, 0), StrictSentences.UNKNOWN);
            Check.due("a " + slot, x.make(0, slot, 0, 0), StrictSentences.UNKNOWN);
            Check.due("b " + slot, x.make(0, 0, slot, 0), StrictSentences.UNKNOWN);
        }
        Check.due("slot 0 is left", Check.written(x, 0), "p");
        Check.due("nothing else is held", x.count(0), 1);
    }

    private static void makeOutside() {
        StrictSentences x = Check.holding("p");
        int[] ways = {-1, 3, 4, 32, Check.LEAST, Check.GREATEST};
        for (int way : ways) {
            Check.due("way " + way, x.make(1, 0, 0, way), StrictSentences.OUTSIDE);
        }
        Check.due("nothing is made", x.count(11), 0);
    }

    private static void makeOfEmpty() {
        StrictSentences x = Check.holding("p", "q");
        Check.due("a", x.make(1, 2, 0, 0), StrictSentences.STATE);
        Check.due("b", x.make(1, 0, 2, 0), StrictSentences.STATE);
        Check.due("both", x.make(1, 2, 3, 0), StrictSentences.STATE);
        Check.due("both are one", x.make(1, 2, 2, 0), StrictSentences.STATE);
        Check.due("to is left", Check.written(x, 1), "q");
        Check.due("an empty to is no matter", x.make(5, 0, 1, 0), 3);
        x.drop(1);
        Check.due("b was dropped", x.make(5, 0, 1, 0), StrictSentences.STATE);
    }

    private static void makeFull() {
        StrictSentences x = Check.holding(TEN_PARTS, "p", ELEVEN_PARTS, "(p>r)");
        Check.due("11 parts", x.make(4, 0, 1, 0), 11);
        Check.due("12 parts: the pair itself", x.make(1, 2, 1, 0), StrictSentences.FULL);
        Check.due("12 parts: B first", x.make(1, 1, 2, 2), StrictSentences.FULL);
        Check.due("12 parts: of one", x.make(1, 2, 2, 1), StrictSentences.FULL);
        Check.due("12 parts: one of B's and the pair", x.make(1, 0, 3, 1), StrictSentences.FULL);
        Check.due("to is left", Check.written(x, 1), "p");
        Check.due("an empty to is left", x.make(5, 2, 1, 0), StrictSentences.FULL);
        Check.due("it is empty", x.count(15), 0);
        Check.due("a large pair, then one that is not", x.make(5, 1, 1, 0), 2);
        StrictSentences y = Check.holding("(((p>q)>r)>s)", "(((q>p)>s)>r)", "-(q>s)");
        Check.due("both have many parts", y.make(3, 0, 1, 0), 11);
        Check.due("and the two have more", y.make(3, 3, 2, 0), StrictSentences.FULL);
        Check.due("the first is left", y.count(13), 11);
    }

    private static void eachPart() {
        String[] want = {"p", "q", "(p&q)", "r", "s", "(r>s)", "((p&q)|(r>s))", "(q&p)", "(s>r)", "((q&p)|(s>r))",
            ELEVEN_PARTS};
        for (int k = 0; k < want.length; k++) {
            StrictSentences x = Check.holding(ELEVEN_PARTS, "F");
            x.part(1, 0, k);
            Check.due("part " + k, Check.written(x, 1), want[k]);
            Check.due("the other slot is left", Check.written(x, 0), ELEVEN_PARTS);
            Check.due("into an empty slot", x.part(5, 0, k), x.count(11));
            Check.due("is like it", x.count(3), k == want.length - 1 ? 1 : 2);
        }
        // (q>-p) numbers its parts by itself: q, p, F, -p
        StrictSentences y = Check.holding("((p|q)&(q>-p))");
        y.part(1, 0, 5);
        Check.due("its part 0 is q", y.told(1, 0, 1), 1);
        Check.due("its part 1 is p", y.told(1, 1, 1), 0);
        Check.due("its part 2 is F", y.told(1, 2, 0), 1);
        Check.put(y, 2, "(q>-p)");
        Check.due("like the one that is read", y.count(3), 2);
    }

    private static void partOntoTheSame() {
        StrictSentences x = Check.holding(ELEVEN_PARTS);
        Check.due("the whole", x.part(0, 0, 10), 11);
        Check.due("is the same", Check.written(x, 0), ELEVEN_PARTS);
        Check.due("the right", x.part(0, 0, 9), 7);
        Check.due("is", Check.written(x, 0), "((q&p)|(s>r))");
        Check.due("numbered anew", x.part(0, 0, 0), 1);
        Check.due("is", Check.written(x, 0), "q");
        Check.due("of one part", x.part(0, 0, 0), 1);
        Check.due("is the same", Check.written(x, 0), "q");
    }

    private static void partTellsParts() {
        StrictSentences x = Check.holding("---------p");
        int[] parts = {1, 1, 3, 4, 5, 6, 7, 8, 9, 10, 11};
        for (int k = 0; k < parts.length; k++) {
            Check.due("parts of part " + k, x.part(1, 0, k), parts[k]);
            Check.due("parts of the slot", x.count(11), parts[k]);
        }
    }

    private static void partUnknown() {
        StrictSentences x = Check.holding("p");
        for (int slot : Check.NO_SLOTS) {
            Check.due("to " + slot, x.part(slot, 0, 0), StrictSentences.UNKNOWN);
            Check.due("from " + slot, x.part(0, slot, 0), StrictSentences.UNKNOWN);
        }
    }

    private static void partOfEmpty() {
        StrictSentences x = Check.holding("p");
        Check.due("from an empty slot", x.part(0, 1, 0), StrictSentences.STATE);
        Check.due("from an empty slot into itself", x.part(1, 1, 0), StrictSentences.STATE);
        Check.due("to is left", Check.written(x, 0), "p");
        Check.due("an empty to is no matter", x.part(5, 0, 0), 1);
    }

    private static void noSuchPart() {
        StrictSentences x = Check.holding("(p|q)", "r", ELEVEN_PARTS);
        int[] outside = {-1, 3, 11, 32, 34, Check.LEAST, Check.GREATEST};
        for (int k : outside) {
            Check.due("part " + k + " of three", x.part(1, 0, k), StrictSentences.OUTSIDE);
        }
        Check.due("part 1 of one", x.part(0, 1, 1), StrictSentences.OUTSIDE);
        Check.due("part 10 of eleven", x.part(3, 2, 10), 11);
        Check.due("part 11 of eleven", x.part(3, 2, 11), StrictSentences.OUTSIDE);
        Check.due("to is left", Check.written(x, 1) + Check.written(x, 0), "r(p|q)");
    }

    /** No SENTENCE is longer: each of 11 PARTS is a pair of the one before. */
    private static StrictSentences longest() {
        StrictSentences x = Check.holding("p");
        for (int parts = 2; parts <= 11; parts++) {
            x.make(0, 0, 0, parts % 3);
        }
        return x;
    }

    private static void signsOfTheLongest() {
        String want = "p";
        for (int parts = 2; parts <= 11; parts++) {
            want = "(" + want + "&|>".charAt(parts % 3) + want + ")";
        }
        StrictSentences x = null;
        for (int k = 0; k < want.length(); k++) {
            x = k % 400 == 0 ? longest() : x;
            Check.due("sign " + k, x.sign(0, k), want.charAt(k));
        }
        Check.due("behind the last", x.sign(0, want.length()), NONE);
    }

    private static void signsOfNot() {
        String[] texts = {"-p", "--F", "((p&-q)|(r>s))", "-(p|-s)", "(p>F)"};
        String[] wants = {"(p>F)", "((F>F)>F)", "((p&(q>F))|(r>s))", "((p|(s>F))>F)", "(p>F)"};
        for (int i = 0; i < texts.length; i++) {
            Check.due("signs of " + texts[i], Check.written(Check.holding(texts[i]), 0), wants[i]);
        }
    }

    private static void howManySigns() {
        Check.due("of one", Check.holding("p").sign(0, -1), 1);
        Check.due("of -F", Check.holding("-F").sign(0, -1), 5);
        Check.due("of the longest", longest().sign(0, -1), 4093);
    }

    private static void noSuchSign() {
        StrictSentences x = Check.holding("p", "(p&q)");
        Check.due("the last sign", x.sign(1, 4), ')');
        int[] behind = {5, 6, 32, 4093, Check.GREATEST};
        for (int k : behind) {
            Check.due("sign " + k + " of five", x.sign(1, k), NONE);
        }
        Check.due("sign 1 of one", x.sign(0, 1), NONE);
        Check.due("sign 4092 of the longest", longest().sign(0, 4092), ')');
        Check.due("sign 4093 of the longest", longest().sign(0, 4093), NONE);
    }

    private static void signUnknown() {
        StrictSentences x = Check.holding("p");
        for (int slot : Check.NO_SLOTS) {
            Check.due("sign of " + slot, x.sign(slot, 0), StrictSentences.UNKNOWN);
            Check.due("signs of " + slot, x.sign(slot, -1), StrictSentences.UNKNOWN);
        }
    }

    private static void signOutside() {
        StrictSentences x = Check.holding("p");
        int[] below = {-2, -3, -32, Check.LEAST};
        for (int k : below) {
            Check.due("sign " + k, x.sign(0, k), StrictSentences.OUTSIDE);
        }
    }

    private static void signOfEmpty() {
        StrictSentences x = Check.holding("p");
        x.drop(0);
        for (int slot = 0; slot < 6; slot++) {
            Check.due("signs of slot " + slot, x.sign(slot, -1), StrictSentences.STATE);
            Check.due("sign 0 of slot " + slot, x.sign(slot, 0), StrictSentences.STATE);
            Check.due("a sign that no sentence has", x.sign(slot, Check.GREATEST), StrictSentences.STATE);
        }
    }

    private static void told(String text, int what, int... want) {
        StrictSentences x = Check.holding(text);
        Check.due("parts of " + text, x.count(10), want.length);
        for (int k = 0; k < want.length; k++) {
            Check.due("told of " + text + ", " + k + ", " + what, x.told(0, k, what), want[k]);
        }
    }

    private static void toldKinds() {
        told("p", 0, 0);
        told("F", 0, 1);
        told("-F", 0, 1, 4);
        told("(((p&q)|r)>F)", 0, 0, 0, 2, 0, 3, 1, 4);
    }

    private static void toldNumbers() {
        // p, q, (p&q), r, s, (r>s), F, -(r>s), the whole
        told("((p&q)|-(r>s))", 1, 0, 1, 0, 2, 3, 3, NONE, 5, 2);
        told("((p&q)|-(r>s))", 2, NONE, NONE, 1, NONE, NONE, 4, NONE, 6, 7);
        told("(p&p)", 1, 0, 0);
        told("(p&p)", 2, NONE, 0);
        told("(q>(p>q))", 1, 1, 0, 1, 0);
        told("(q>(p>q))", 2, NONE, NONE, 0, 2);
        told("---------p", 1, 0, NONE, 0, 2, 3, 4, 5, 6, 7, 8, 9);
        told("---------p", 2, NONE, NONE, 1, 1, 1, 1, 1, 1, 1, 1, 1);
    }

    private static void toldAtoms() {
        told("p", 1, 0);
        told("q", 1, 1);
        told("r", 1, 2);
        told("s", 1, 3);
        told("(s&(r&(q&p)))", 1, 3, 2, 1, 0, 2, 1, 0);
    }

    private static void nothingToTell() {
        told("F", 1, NONE);
        told("F", 2, NONE);
        told("p", 2, NONE);
        told("s", 2, NONE);
    }

    private static void toldUnknown() {
        StrictSentences x = Check.holding("p");
        for (int slot : Check.NO_SLOTS) {
            Check.due("told of " + slot, x.told(slot, 0, 0), StrictSentences.UNKNOWN);
        }
    }

    private static void toldOfEmpty() {
        StrictSentences x = Check.holding("p");
        x.drop(0);
        for (int slot = 0; slot < 6; slot++) {
            Check.due("told of slot " + slot, x.told(slot, 0, 0), StrictSentences.STATE);
        }
    }

    private static void toldNoSuchPart() {
        StrictSentences x = Check.holding("(p>F)", ELEVEN_PARTS);
        int[] parts = {-1, 3, 11, 32, 34, Check.LEAST, Check.GREATEST};
        for (int k : parts) {
            for (int what = 0; what <= 2; what++) {
                Check.due("part " + k + " of three, " + what, x.told(0, k, what), StrictSentences.OUTSIDE);
            }
        }
        Check.due("part 10 of eleven", x.told(1, 10, 0), 4);
        Check.due("part 11 of eleven", x.told(1, 11, 0), StrictSentences.OUTSIDE);
    }

    private static void toldNoSuchWhat() {
        StrictSentences x = Check.holding("(p>F)");
        int[] whats = {-1, 3, 32, Check.LEAST, Check.GREATEST};
        for (int what : whats) {
            Check.due("of an atom " + what, x.told(0, 0, what), StrictSentences.OUTSIDE);
            Check.due("of F " + what, x.told(0, 1, what), StrictSentences.OUTSIDE);
            Check.due("of a pair " + what, x.told(0, 2, what), StrictSentences.OUTSIDE);
        }
    }

    private static void droppedIsEmpty() {
        for (int slot = 0; slot < 6; slot++) {
            StrictSentences x = Check.holding("p", "q", "r", "s", "F", "-F");
            x.drop(slot);
            Check.due("parts of slot " + slot, x.count(10 + slot), 0);
            Check.due("plain of slot " + slot, x.plain(slot), StrictSentences.STATE);
            Check.due("the others are left", x.count(3), 5);
            Check.due("it can hold again", x.make(slot, (slot + 1) % 6, (slot + 2) % 6, 0) > 0 ? 1 : 0, 1);
        }
    }

    private static void dropTellsWhetherItHeld() {
        StrictSentences x = Check.holding("p", "q");
        Check.due("one that holds", x.drop(1), 1);
        Check.due("one that was dropped", x.drop(1), 0);
        Check.due("one that never held", x.drop(5), 0);
        Check.due("one after it", x.drop(0), 1);
    }

    private static void dropUnknown() {
        StrictSentences x = Check.holding("p", "q", "r", "s", "F", "-F");
        for (int slot : Check.NO_SLOTS) {
            Check.due("drop " + slot, x.drop(slot), StrictSentences.UNKNOWN);
        }
        Check.due("all are left", x.count(0), 6);
    }
}
