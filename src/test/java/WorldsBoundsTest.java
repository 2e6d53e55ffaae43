/** The boundary cases of promises 15 and 16: worlds, world. */
public final class WorldsBoundsTest {
    private static final int NONE = StrictSentences.NONE;
    /** Of all SENTENCES that a long search came upon the one with the most WORLDS, 109. */
    private static final String MOST_WORLDS = "((r>-s)>-(q>(p>F)))";
    /** Of 11 PARTS, which one after another make a WORLD higher. */
    private static final String HIGHEST = "(((s>r)>(q>p))>((r>p)>(q>s)))";

    public static void main(String[] args) {
        promise15();
        promise16();
        Check.end();
    }

    private static void promise15() {
        Check.promise(15, "Of the SENTENCE of a SLOT", WorldsBoundsTest::askedInTurn);
        Check.promise(15, "how many WORLDS there are (what = 0)", WorldsBoundsTest::howMany);
        Check.promise(15, "how many REFUTE it (1)", WorldsBoundsTest::howManyRefute);
        Check.promise(15, "the least as a number of these (2; NONE)", WorldsBoundsTest::leastThatRefutes);
        Check.promise(15, "how many have none ABOVE (3)", WorldsBoundsTest::noneAbove);
        Check.promise(15, "the greatest HEIGHT (4)", WorldsBoundsTest::greatestHeight);
        Check.promise(15, "how many are ABOVE none (5)", WorldsBoundsTest::aboveNone);
        Check.promise(15, "UNKNOWN", WorldsBoundsTest::worldsUnknown);
        Check.promise(15, "OUTSIDE", WorldsBoundsTest::worldsOutside);
        Check.promise(15, "STATE", WorldsBoundsTest::worldsOfEmpty);
    }

    private static void promise16() {
        Check.promise(16, "Of the i-th WORLD, rising as numbers, from 0 on", WorldsBoundsTest::rising);
        Check.promise(16, "the set of its PARTS (what = 0)", WorldsBoundsTest::sets);
        Check.promise(16, "how many WORLDS are ABOVE it (1)", WorldsBoundsTest::above);
        Check.promise(16, "its HEIGHT (2)", WorldsBoundsTest::heights);
        Check.promise(16, "NONE: there is none such (i below 0, too)", WorldsBoundsTest::noSuchWorld);
        Check.promise(16, "UNKNOWN", WorldsBoundsTest::worldUnknown);
        Check.promise(16, "OUTSIDE: what", WorldsBoundsTest::worldOutside);
        Check.promise(16, "STATE", WorldsBoundsTest::worldOfEmpty);
    }

    private static void worlds(String text, int what, int due) {
        Check.due("worlds of " + text + ", " + what, Check.holding(text).worlds(0, what), due);
    }

    /** Nothing of the worlds of one SENTENCE may be left when another is asked for. */
    private static void askedInTurn() {
        String[] texts = {HIGHEST, MOST_WORLDS, "-F", "(q>(-r&(-s&-p)))", "p", "(p>q)"};
        StrictSentences x = Check.holding(texts);
        for (int step = 1; step <= 5; step += 4) {
            for (int turn = 0; turn < 6; turn++) {
                int slot = turn * step % 6;
                for (int what = 5; what >= 0; what--) {
                    worlds(texts[slot], what, x.worlds(slot, what));
                }
            }
        }
    }

    private static void howMany() {
        worlds("F", 0, 1);
        worlds("-F", 0, 1);
        worlds("p", 0, 2);
        worlds("-p", 0, 3);
        worlds(MOST_WORLDS, 0, 109);
        StrictSentences x = Check.holding("(p>q)", "p");
        Check.due("of slot 0", x.worlds(0, 0), 5);
        Check.due("of slot 1", x.worlds(1, 0), 2);
        Check.due("of slot 0 again", x.worlds(0, 0), 5);
        Check.put(x, 0, "F");
        Check.due("of what is read over it", x.worlds(0, 0), 1);
    }

    private static void howManyRefute() {
        worlds("-F", 1, 0);
        worlds("(p>p)", 1, 0);
        worlds("F", 1, 1);
        worlds("(p|-p)", 1, 1);
        worlds("(p&F)", 1, 2);
        worlds("--p", 1, 2);
    }

    private static void leastThatRefutes() {
        worlds("-F", 2, NONE);
        worlds("--(p|-p)", 2, NONE);
        worlds("p", 2, 0);
        worlds("F", 2, 0);
        // 0 p, 1 (p>p), 2 q, 3 the whole: (p>p) is in all worlds
        worlds("((p>p)&q)", 2, 2);
        // 0 F, 1 -F, 2 p, 3 q, 4 (p|q), 5 the whole
        worlds("(-F&(p|q))", 2, 2);
        // 0 F, 1 -F, 2 the whole: the one world there is
        worlds("(-F&F)", 2, 2);
    }

    private static void noneAbove() {
        worlds("F", 3, 1);
        worlds("p", 3, 1);
        worlds("-p", 3, 2);
        worlds("(p&q)", 3, 1);
        worlds("(-p|-q)", 3, 4);
        worlds("(q>(-r&(-s&-p)))", 3, 15);
    }

    private static void greatestHeight() {
        worlds("F", 4, 0);
        worlds("-F", 4, 0);
        worlds("p", 4, 1);
        worlds("(p>q)", 4, 3);
        worlds(HIGHEST, 4, 11);
    }

    private static void aboveNone() {
        worlds("F", 5, 1);
        worlds("-F", 5, 1);
        worlds("p", 5, 1);
        worlds("(-p|-q)", 5, 1);
        worlds(MOST_WORLDS, 5, 1);
    }

    private static void worldsUnknown() {
        StrictSentences x = Check.holding("p");
        for (int slot : Check.NO_SLOTS) {
            for (int what = 0; what <= 5; what++) {
                Check.due("worlds of " + slot + ", " + what, x.worlds(slot, what), StrictSentences.UNKNOWN);
            }
        }
    }

    private static void worldsOutside() {
        StrictSentences x = Check.holding("p");
        int[] outside = {-1, 6, 7, 32, Check.LEAST, Check.GREATEST};
        for (int what : outside) {
            Check.due("what " + what, x.worlds(0, what), StrictSentences.OUTSIDE);
        }
    }

    private static void worldsOfEmpty() {
        StrictSentences x = Check.holding("p");
        Check.due("before", x.worlds(0, 0), 2);
        x.drop(0);
        for (int what = 0; what <= 5; what++) {
            Check.due("of one that was dropped, " + what, x.worlds(0, what), StrictSentences.STATE);
            Check.due("of one that never held, " + what, x.worlds(5, what), StrictSentences.STATE);
        }
    }

    private static void world(String text, int what, int... want) {
        StrictSentences x = Check.holding(text);
        for (int i = 0; i < want.length; i++) {
            Check.due("world " + i + " of " + text + ", " + what, x.world(0, i, what), want[i]);
        }
        Check.due("world " + want.length + " of " + text + ", " + what, x.world(0, want.length, what), NONE);
    }

    private static void rising() {
        String[] texts = {"F", "p", "(p>q)", MOST_WORLDS, HIGHEST};
        for (String text : texts) {
            StrictSentences x = Check.holding(text);
            int many = x.worlds(0, 0);
            Check.holds("world 0 is no NONE", x.world(0, 0, 0) >= 0);
            for (int i = 1; i < many; i++) {
                Check.holds("world " + i + " of " + text, x.world(0, i, 0) > x.world(0, i - 1, 0));
            }
            Check.due("behind the last of " + text, x.world(0, many, 0), NONE);
        }
    }

    private static void sets() {
        world("F", 0, 0);
        world("-F", 0, 2);
        world("p", 0, 0, 1);
        world("-p", 0, 0, 1, 4);
        world("(p|q)", 0, 0, 5, 6, 7);
        world("--(p|-p)", 0, 32, 41, 44);
    }

    private static void above() {
        world("F", 1, 0);
        world("p", 1, 1, 0);
        world("-p", 1, 2, 0, 0);
        world("(p&q)", 1, 3, 1, 1, 0);
        world("(p>q)", 1, 4, 1, 2, 1, 0);
        Check.due("above the first of most", Check.holding(MOST_WORLDS).world(0, 0, 1), 108);
        Check.due("above the last of most", Check.holding(MOST_WORLDS).world(0, 108, 1), 0);
    }

    private static void heights() {
        world("F", 2, 0);
        world("p", 2, 1, 0);
        world("-p", 2, 1, 0, 0);
        world("--p", 2, 2, 0, 1, 0);
        world("(p>q)", 2, 3, 1, 2, 1, 0);
        Check.due("of the lowest", Check.holding(HIGHEST).world(0, 0, 2), 11);
    }

    private static void noSuchWorld() {
        StrictSentences x = Check.holding("p", MOST_WORLDS);
        int[] none = {-1, 2, 3, 32, Check.LEAST, Check.LEAST + 1, Check.GREATEST};
        for (int i : none) {
            for (int what = 0; what <= 2; what++) {
                Check.due("world " + i + " of two, " + what, x.world(0, i, what), NONE);
            }
        }
        Check.holds("world 108 of 109", x.world(1, 108, 0) > 0);
        Check.due("world 109 of 109", x.world(1, 109, 0), NONE);
        Check.due("world 2047 of 109", x.world(1, 2047, 0), NONE);
        Check.due("world 2048 of 109", x.world(1, 2048, 0), NONE);
        Check.due("world 2 of two, after one that has more", x.world(0, 2, 0), NONE);
    }

    private static void worldUnknown() {
        StrictSentences x = Check.holding("p");
        for (int slot : Check.NO_SLOTS) {
            for (int what = 0; what <= 2; what++) {
                Check.due("world of " + slot + ", " + what, x.world(slot, 0, what), StrictSentences.UNKNOWN);
            }
        }
    }

    private static void worldOutside() {
        StrictSentences x = Check.holding("p");
        int[] outside = {-1, 3, 4, 5, 32, Check.LEAST, Check.GREATEST};
        for (int what : outside) {
            Check.due("what " + what, x.world(0, 0, what), StrictSentences.OUTSIDE);
        }
    }

    private static void worldOfEmpty() {
        StrictSentences x = Check.holding("p");
        Check.due("before", x.world(0, 0, 0), 0);
        x.drop(0);
        for (int what = 0; what <= 2; what++) {
            Check.due("of one that was dropped, " + what, x.world(0, 0, what), StrictSentences.STATE);
            Check.due("of one that never held, " + what, x.world(5, 0, what), StrictSentences.STATE);
            Check.due("no NONE, " + what, x.world(5, -1, what), StrictSentences.STATE);
        }
    }
}
