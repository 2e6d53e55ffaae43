/** Promises 15 and 16, ordinary inputs; their boundary cases stand in WorldsBoundsTest. */
public final class WorldsTest {
    public static void main(String[] args) {
        // Each row of a WORLD: the set, how many are ABOVE it, its HEIGHT.
        worlds("p", new int[][] {{0, 1, 1}, {1, 0, 0}});
        worlds("F", new int[][] {{0, 0, 0}});
        // 0 F, 1 -F
        worlds("-F", new int[][] {{2, 0, 0}});
        // 0 p, 1 F, 2 -p
        worlds("-p", new int[][] {{0, 2, 1}, {1, 0, 0}, {4, 0, 0}});
        // 0 p, 1 q, 2 (p&q)
        worlds("(p&q)", new int[][] {{0, 3, 2}, {1, 1, 1}, {2, 1, 1}, {7, 0, 0}});
        worlds("(p|q)", new int[][] {{0, 3, 2}, {5, 1, 1}, {6, 1, 1}, {7, 0, 0}});
        // 0 p, 1 (p>p)
        worlds("(p>p)", new int[][] {{2, 1, 1}, {3, 0, 0}});
        // 0 p, 1 q, 2 (p>q)
        worlds("(p>q)", new int[][] {{0, 4, 3}, {1, 1, 1}, {4, 2, 2}, {6, 1, 1}, {7, 0, 0}});
        // 0 p, 1 F, 2 -p, 3 --p
        worlds("--p", new int[][] {{0, 3, 2}, {4, 0, 0}, {8, 1, 1}, {9, 0, 0}});
        // 0 p, 1 F, 2 (p&F)
        worlds("(p&F)", new int[][] {{0, 1, 1}, {1, 0, 0}});
        // 0 p, 1 F, 2 -p, 3 (p|-p), 4 -(p|-p), 5 --(p|-p)
        worlds("--(p|-p)", new int[][] {{32, 2, 1}, {41, 0, 0}, {44, 0, 0}});
        counts("p", 2, 1, 0, 1, 1, 1);
        counts("F", 1, 1, 0, 1, 0, 1);
        counts("-F", 1, 0, StrictSentences.NONE, 1, 0, 1);
        counts("(p|-p)", 3, 1, 0, 2, 1, 1);
        counts("(p>q)", 5, 2, 0, 1, 3, 1);
        counts("--p", 4, 2, 0, 2, 2, 1);
        counts("--(p|-p)", 3, 0, StrictSentences.NONE, 2, 1, 1);
        counts("((p&q)>p)", 4, 0, StrictSentences.NONE, 1, 2, 1);
        leastOfMany();
        Check.end();
    }

    private static void worlds(String text, int[][] want) {
        StrictSentences x = Check.holding(text);
        Check.due("worlds of " + text, x.worlds(0, 0), want.length);
        for (int i = 0; i < want.length; i++) {
            for (int what = 0; what < 3; what++) {
                Check.due("world " + i + " of " + text + ", " + what, x.world(0, i, what), want[i][what]);
            }
        }
    }

    private static void counts(String text, int... want) {
        StrictSentences x = Check.holding(text);
        for (int what = 0; what < want.length; what++) {
            Check.due("worlds of " + text + ", " + what, x.worlds(0, what), want[what]);
        }
    }

    /** Where the SENTENCE is refuted, but not where nothing is known. */
    private static void leastOfMany() {
        StrictSentences x = Check.holding("((p>p)&q)");
        // 0 p, 1 (p>p), 2 q, 3 the whole: (p>p) is in all worlds
        Check.due("least that refutes", x.worlds(0, 2), 2);
        Check.due("how many refute", x.worlds(0, 1), 2);
        Check.due("worlds", x.worlds(0, 0), 4);
        // asked in turn, each slot has its own worlds
        Check.put(x, 1, "-p");
        Check.due("worlds of 1", x.worlds(1, 0), 3);
        Check.due("worlds of 0 again", x.worlds(0, 0), 4);
        Check.due("over 0", Check.put(x, 0, "F"), 1);
        Check.due("worlds of the new one", x.worlds(0, 0), 1);
    }
}
