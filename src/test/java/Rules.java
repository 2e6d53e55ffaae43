/**
 * What the document says of FOLLOWS and of WORLDS, done as it is said: each rule is used on all sets
 * of PARTS of one SENTENCE until nothing more can be told. PARTS are enough for this, since what
 * follows from PARTS of a SENTENCE can be told by way of its PARTS alone.
 */
final class Rules {
    private static final int FALSE = 1, AND = 2, OR = 3, IMPLIES = 4;

    final int size;
    private final int[] kind;
    private final int[] a;
    private final int[] b;
    /** By set of PARTS: the set of those that follow from it. */
    private final int[] following;

    Rules(StrictSentences x, int slot) {
        size = x.count(10 + slot);
        kind = told(x, slot, 0);
        a = told(x, slot, 1);
        b = told(x, slot, 2);
        following = new int[1 << size];
        boolean more = true;
        while (more) {
            more = false;
            for (int set = 0; set < following.length; set++) {
                int before = following[set];
                following[set] |= set | toldOnce(set);
                more |= following[set] != before;
            }
        }
    }

    private int[] told(StrictSentences x, int slot, int what) {
        int[] all = new int[size];
        for (int k = 0; k < size; k++) {
            all[k] = x.told(slot, k, what);
        }
        return all;
    }

    private int toldOnce(int set) {
        int found = 0;
        for (int k = 0; k < size; k++) {
            found |= follows(set, k) ? byHaving(set, k) : 0;
            found |= canBeMade(set, k) ? 1 << k : 0;
        }
        return found;
    }

    private int byHaving(int set, int k) {
        switch (kind[k]) {
            case FALSE:
                return (1 << size) - 1;
            case AND:
                return 1 << a[k] | 1 << b[k];
            case OR:
                return following[set | 1 << a[k]] & following[set | 1 << b[k]];
            case IMPLIES:
                return follows(set, a[k]) ? 1 << b[k] : 0;
            default:
                return 0;
        }
    }

    private boolean canBeMade(int set, int k) {
        switch (kind[k]) {
            case AND:
                return follows(set, a[k]) && follows(set, b[k]);
            case OR:
                return follows(set, a[k]) || follows(set, b[k]);
            case IMPLIES:
                return follows(set | 1 << a[k], b[k]);
            default:
                return false;
        }
    }

    boolean follows(int set, int k) {
        return (following[set] >> k & 1) != 0;
    }

    boolean isWorld(int world) {
        int others = following.length - 1 & ~world;
        boolean[] told = new boolean[following.length];
        // A set with more in it is told first, so that the two cases of ( A | B ) are there.
        for (int set = following.length - 1; set >= world; set--) {
            if ((set & world) == world) {
                told[set] = (following[set] & others) != 0 || hasFalse(set) || isToldByCases(set, told);
            }
        }
        return !told[world];
    }

    private boolean hasFalse(int set) {
        for (int k = 0; k < size; k++) {
            if (kind[k] == FALSE && follows(set, k)) {
                return true;
            }
        }
        return false;
    }

    private boolean isToldByCases(int set, boolean[] told) {
        for (int k = 0; k < size; k++) {
            if (kind[k] == OR && follows(set, k) && told[set | 1 << a[k]] && told[set | 1 << b[k]]) {
                return true;
            }
        }
        return false;
    }
}
