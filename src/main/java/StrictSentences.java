/** Sentences, and what follows from them strictly. */
public final class StrictSentences {
    public static final int UNKNOWN = -1, OUTSIDE = -2, STATE = -3, FULL = -4, NONE = -6, FAULT = -7;

    private static final int SLOTS = 6;
    private static final int IMAGES = 2;
    private static final int MOST_SIGNS = 40;
    private static final int MOST_PARTS = 11;
    private static final int FIRST_SIGN = 33;
    private static final int LAST_SIGN = 126;

    /** The kinds of PARTS, numbered as told() tells them; from AND on they are pairs. */
    private static final int ATOM = 0, FALSE = 1, AND = 2, OR = 3, IMPLIES = 4;

    private static final String ATOM_SIGNS = "pqrs";
    private static final String PAIR_SIGNS = "&|>";

    private final Shelf shelf = new Shelf();
    private final Shelf[] images = new Shelf[IMAGES];
    private int keptImages = 0;
    private final Text text = new Text();
    private int faultPlace = NONE;
    /** What a call builds stands here first, so that a refused call leaves its SLOT alone. */
    private final Sentence draft = new Sentence();
    private final Frame frame = new Frame();

    public StrictSentences() {
        for (int k = 0; k < IMAGES; k++) {
            images[k] = new Shelf();
        }
    }

    // ---- 1 sentences

    public int say(int sign) {
        if (sign < FIRST_SIGN || sign > LAST_SIGN) {
            return OUTSIDE;
        }
        if (text.length >= MOST_SIGNS) {
            return FULL;
        }
        text.add(sign);
        return text.length;
    }

    public int wipe() {
        int had = text.length;
        text.length = 0;
        return had;
    }

    public int read(int to) {
        if (!isSlot(to)) {
            return UNKNOWN;
        }
        int place = text.parseInto(draft);
        if (place != NONE) {
            faultPlace = place;
            return FAULT;
        }
        if (draft.large) {
            return FULL;
        }
        text.length = 0;
        return putDraft(to);
    }

    public int fault() {
        return faultPlace;
    }

    public int make(int to, int a, int b, int way) {
        if (!isSlot(to) || !isSlot(a) || !isSlot(b)) {
            return UNKNOWN;
        }
        if (way < 0 || way > IMPLIES - AND) {
            return OUTSIDE;
        }
        if (isEmpty(a) || isEmpty(b)) {
            return STATE;
        }
        draft.becomePair(AND + way, shelf.held[a], shelf.held[b]);
        return draft.large ? FULL : putDraft(to);
    }

    public int part(int to, int from, int k) {
        if (!isSlot(to) || !isSlot(from)) {
            return UNKNOWN;
        }
        if (isEmpty(from)) {
            return STATE;
        }
        if (!shelf.held[from].hasPart(k)) {
            return OUTSIDE;
        }
        draft.becomePart(shelf.held[from], k);
        return putDraft(to);
    }

    public int sign(int slot, int k) {
        if (!isSlot(slot)) {
            return UNKNOWN;
        }
        if (k < -1) {
            return OUTSIDE;
        }
        if (isEmpty(slot)) {
            return STATE;
        }
        Sentence sentence = shelf.held[slot];
        return k == -1 ? sentence.signs() : sentence.signAt(k);
    }

    public int told(int slot, int k, int what) {
        if (!isSlot(slot)) {
            return UNKNOWN;
        }
        if (isEmpty(slot)) {
            return STATE;
        }
        Sentence sentence = shelf.held[slot];
        if (!sentence.hasPart(k)) {
            return OUTSIDE;
        }
        switch (what) {
            case 0:
                return sentence.kind[k];
            case 1:
                return sentence.left[k];
            case 2:
                return sentence.right[k];
            default:
                return OUTSIDE;
        }
    }

    public int drop(int slot) {
        if (!isSlot(slot)) {
            return UNKNOWN;
        }
        int was = isEmpty(slot) ? 0 : 1;
        shelf.held[slot].clear();
        return was;
    }

    // ---- 2 what follows

    public int plain(int slot) {
        if (!isSlot(slot)) {
            return UNKNOWN;
        }
        if (isEmpty(slot)) {
            return STATE;
        }
        return isPlain(shelf.held[slot]) ? 1 : 0;
    }

    public int rows(int slot) {
        if (!isSlot(slot)) {
            return UNKNOWN;
        }
        if (isEmpty(slot)) {
            return STATE;
        }
        return shelf.held[slot].isTrueByRows() ? 1 : 0;
    }

    public int follows(int a, int b) {
        if (!isSlot(a) || !isSlot(b)) {
            return UNKNOWN;
        }
        if (isEmpty(a) || isEmpty(b)) {
            return STATE;
        }
        draft.becomePair(IMPLIES, shelf.held[a], shelf.held[b]);
        if (draft.large) {
            return FULL;
        }
        return isPlain(draft) ? 1 : 0;
    }

    public int from(int slot, int set, int k) {
        if (!isSlot(slot)) {
            return UNKNOWN;
        }
        if (isEmpty(slot)) {
            return STATE;
        }
        Sentence sentence = shelf.held[slot];
        if (!sentence.hasPart(k) || (set >>> sentence.size) != 0) {
            return OUTSIDE;
        }
        frame.turnTo(sentence);
        return frame.forces(set, k) ? 1 : 0;
    }

    // ---- 3 worlds

    public int worlds(int slot, int what) {
        if (!isSlot(slot)) {
            return UNKNOWN;
        }
        if (what < 0 || what > 5) {
            return OUTSIDE;
        }
        if (isEmpty(slot)) {
            return STATE;
        }
        frame.turnTo(shelf.held[slot]);
        switch (what) {
            case 0:
                return frame.size();
            case 1:
                return frame.refuting();
            case 2:
                return frame.leastRefuting();
            case 3:
                return frame.highest();
            case 4:
                return frame.greatestHeight();
            default:
                return frame.lowest();
        }
    }

    public int world(int slot, int i, int what) {
        if (!isSlot(slot)) {
            return UNKNOWN;
        }
        if (what < 0 || what > 2) {
            return OUTSIDE;
        }
        if (isEmpty(slot)) {
            return STATE;
        }
        frame.turnTo(shelf.held[slot]);
        if (i < 0 || i >= frame.size()) {
            return NONE;
        }
        switch (what) {
            case 0:
                return frame.setAt(i);
            case 1:
                return frame.above(i);
            default:
                return frame.heightAt(i);
        }
    }

    // ---- 4 images

    public int image(int k) {
        if (!isImage(k)) {
            return OUTSIDE;
        }
        images[k].copyFrom(shelf);
        keptImages |= 1 << k;
        return 1;
    }

    public int restore(int k) {
        if (!isImage(k)) {
            return OUTSIDE;
        }
        if (!has(keptImages, k)) {
            return STATE;
        }
        shelf.copyFrom(images[k]);
        return 1;
    }

    public int count(int what) {
        switch (what) {
            case 0:
                return countHeld();
            case 1:
                return countPlain();
            case 2:
                // What is PLAIN is TRUE BY ROWS too.
                return countTrueByRows() - countPlain();
            case 3:
                return shelf.countUnlike();
            case 4:
                return text.length;
            case 5:
                return keptImages;
            default:
                return isSlot(what - 10) ? shelf.held[what - 10].size : OUTSIDE;
        }
    }

    private int countHeld() {
        int held = 0;
        for (int s = 0; s < SLOTS; s++) {
            if (!isEmpty(s)) {
                held++;
            }
        }
        return held;
    }

    private int countPlain() {
        int found = 0;
        for (int s = 0; s < SLOTS; s++) {
            if (!isEmpty(s) && isPlain(shelf.held[s])) {
                found++;
            }
        }
        return found;
    }

    private int countTrueByRows() {
        int found = 0;
        for (int s = 0; s < SLOTS; s++) {
            if (!isEmpty(s) && shelf.held[s].isTrueByRows()) {
                found++;
            }
        }
        return found;
    }

    private boolean isPlain(Sentence sentence) {
        // The rows are there already, and often spare the search for WORLDS.
        if (!sentence.isTrueByRows()) {
            return false;
        }
        frame.turnTo(sentence);
        return frame.refuting() == 0;
    }

    private int putDraft(int to) {
        shelf.held[to].copyFrom(draft);
        return draft.size;
    }

    private boolean isEmpty(int slot) {
        return shelf.held[slot].size == 0;
    }

    private static boolean isSlot(int slot) {
        return slot >= 0 && slot < SLOTS;
    }

    private static boolean isImage(int k) {
        return k >= 0 && k < IMAGES;
    }

    private static boolean has(int set, int k) {
        return (set >>> k & 1) != 0;
    }

    /** What the SLOTS hold. */
    private static final class Shelf {
        final Sentence[] held = new Sentence[SLOTS];

        Shelf() {
            for (int s = 0; s < SLOTS; s++) {
                held[s] = new Sentence();
            }
        }

        void copyFrom(Shelf other) {
            for (int s = 0; s < SLOTS; s++) {
                held[s].copyFrom(other.held[s]);
            }
        }

        int countUnlike() {
            int unlike = 0;
            for (int s = 0; s < SLOTS; s++) {
                if (held[s].size > 0 && !standsBefore(s)) {
                    unlike++;
                }
            }
            return unlike;
        }

        private boolean standsBefore(int s) {
            for (int t = 0; t < s; t++) {
                if (held[t].sameAs(held[s])) {
                    return true;
                }
            }
            return false;
        }
    }

    /**
     * The PARTS of a SENTENCE in their order; the last one is the SENTENCE itself.
     * The order depends on the SENTENCE alone, so like SENTENCES have like rows.
     */
    private static final class Sentence {
        /** One bit for each of the 16 ways to tell which ATOMS are true. */
        private static final int ALL_ROWS = 0xFFFF;
        private static final int[] ATOM_ROWS = {0xAAAA, 0xCCCC, 0xF0F0, 0xFF00};

        /** 0: there is no SENTENCE here. */
        int size = 0;
        /** Whether a PART did not fit in; what stands here is no SENTENCE then. */
        boolean large = false;
        final int[] kind = new int[MOST_PARTS];
        /** The numbers of A and B; of an ATOM which it is, at the left; else NONE. */
        final int[] left = new int[MOST_PARTS];
        final int[] right = new int[MOST_PARTS];
        private final int[] length = new int[MOST_PARTS];
        private final int[] trueRows = new int[MOST_PARTS];
        /** Where the PARTS of another SENTENCE came to stand in this one. */
        private final int[] placeOf = new int[MOST_PARTS];

        void clear() {
            size = 0;
            large = false;
        }

        void copyFrom(Sentence other) {
            size = other.size;
            large = other.large;
            for (int k = 0; k < other.size; k++) {
                kind[k] = other.kind[k];
                left[k] = other.left[k];
                right[k] = other.right[k];
                length[k] = other.length[k];
                trueRows[k] = other.trueRows[k];
            }
        }

        boolean sameAs(Sentence other) {
            if (size != other.size) {
                return false;
            }
            for (int k = 0; k < size; k++) {
                if (!isAt(k, other.kind[k], other.left[k], other.right[k])) {
                    return false;
                }
            }
            return true;
        }

        boolean hasPart(int k) {
            return k >= 0 && k < size;
        }

        int root() {
            return size - 1;
        }

        /** The number of a PART, which is added if it is not here yet. */
        int add(int ofKind, int a, int b) {
            for (int k = 0; k < size; k++) {
                if (isAt(k, ofKind, a, b)) {
                    return k;
                }
            }
            if (size >= MOST_PARTS || !canStand(ofKind, a, b)) {
                large = true;
                return 0;
            }
            kind[size] = ofKind;
            left[size] = a;
            right[size] = b;
            length[size] = ofKind < AND ? 1 : length[a] + length[b] + 3;
            trueRows[size] = rowsOf(ofKind, a, b);
            size++;
            return size - 1;
        }

        /** The PARTS of a PART stand before it. */
        private boolean canStand(int ofKind, int a, int b) {
            switch (ofKind) {
                case ATOM:
                    return a >= 0 && a < ATOM_ROWS.length;
                case FALSE:
                    return true;
                default:
                    return a >= 0 && a < size && b >= 0 && b < size;
            }
        }

        private boolean isAt(int k, int ofKind, int a, int b) {
            return kind[k] == ofKind && left[k] == a && right[k] == b;
        }

        private int rowsOf(int ofKind, int a, int b) {
            switch (ofKind) {
                case ATOM:
                    return ATOM_ROWS[a];
                case AND:
                    return trueRows[a] & trueRows[b];
                case OR:
                    return trueRows[a] | trueRows[b];
                case IMPLIES:
                    return ~trueRows[a] & ALL_ROWS | trueRows[b];
                default:
                    return 0;
            }
        }

        void becomePair(int ofKind, Sentence a, Sentence b) {
            copyFrom(a);
            for (int k = 0; k < b.size; k++) {
                placeOf[k] = b.kind[k] < AND
                        ? add(b.kind[k], b.left[k], b.right[k])
                        : add(b.kind[k], placeOf[b.left[k]], placeOf[b.right[k]]);
            }
            add(ofKind, a.root(), placeOf[b.root()]);
        }

        /** A PART may number its own PARTS in another order than the whole does. */
        void becomePart(Sentence whole, int k) {
            clear();
            for (int i = 0; i < MOST_PARTS; i++) {
                placeOf[i] = NONE;
            }
            addPart(this, whole, k, 0);
        }

        private static int addPart(Sentence made, Sentence whole, int k, int depth) {
            if (made.placeOf[k] != NONE || depth >= MOST_PARTS) {
                return made.placeOf[k];
            }
            int a = whole.left[k];
            int b = whole.right[k];
            if (whole.kind[k] >= AND) {
                a = addPart(made, whole, a, depth + 1);
                b = addPart(made, whole, b, depth + 1);
            }
            made.placeOf[k] = made.add(whole.kind[k], a, b);
            return made.placeOf[k];
        }

        boolean isTrueByRows() {
            return size > 0 && trueRows[root()] == ALL_ROWS;
        }

        int signs() {
            return size > 0 ? length[root()] : 0;
        }

        int signAt(int place) {
            if (place < 0 || place >= signs()) {
                return NONE;
            }
            int k = root();
            int rest = place;
            for (int depth = 0; depth < MOST_PARTS && kind[k] >= AND; depth++) {
                int middle = length[left[k]] + 1;
                int end = middle + length[right[k]] + 1;
                if (rest == 0) {
                    return '(';
                } else if (rest == middle) {
                    return PAIR_SIGNS.charAt(kind[k] - AND);
                } else if (rest == end) {
                    return ')';
                } else if (rest < middle) {
                    rest -= 1;
                    k = left[k];
                } else {
                    rest -= middle + 1;
                    k = right[k];
                }
            }
            return kind[k] == ATOM ? ATOM_SIGNS.charAt(left[k]) : 'F';
        }
    }

    /** THE TEXT, and how it is parsed. */
    private static final class Text {
        /** What is open and not whole yet; a pair behind its middle sign stands there by its kind. */
        private static final int OPEN_NOT = 0, OPEN_PAIR = 1;

        int length = 0;
        private final int[] signs = new int[MOST_SIGNS];
        private final int[] opened = new int[MOST_SIGNS];
        /** The number of A, of a pair behind its middle sign. */
        private final int[] lefts = new int[MOST_SIGNS];
        private int depth = 0;
        /** Whether a SENTENCE must begin at this place; if not, one is just whole: PART last. */
        private boolean wanting = true;
        private int last = 0;

        void add(int sign) {
            if (length < MOST_SIGNS) {
                signs[length] = sign;
                length++;
            }
        }

        /** The place of the FAULT, or NONE. */
        int parseInto(Sentence draft) {
            draft.clear();
            depth = 0;
            wanting = true;
            for (int i = 0; i < length; i++) {
                boolean fits = wanting ? begin(draft, signs[i]) : goOn(draft, signs[i]);
                if (!fits) {
                    return i;
                }
            }
            return wanting || depth > 0 ? length : NONE;
        }

        private boolean begin(Sentence draft, int sign) {
            if (sign == '(') {
                return open(OPEN_PAIR);
            }
            if (sign == '-') {
                return open(OPEN_NOT);
            }
            if (sign == 'F') {
                finish(draft, draft.add(FALSE, NONE, NONE));
                return true;
            }
            int which = ATOM_SIGNS.indexOf((char) sign);
            if (which < 0) {
                return false;
            }
            finish(draft, draft.add(ATOM, which, NONE));
            return true;
        }

        private boolean open(int what) {
            if (depth >= MOST_SIGNS) {
                return false;
            }
            opened[depth] = what;
            depth++;
            return true;
        }

        private boolean goOn(Sentence draft, int sign) {
            if (depth == 0) {
                return false;
            }
            int top = depth - 1;
            if (opened[top] == OPEN_PAIR) {
                int pair = PAIR_SIGNS.indexOf((char) sign);
                if (pair < 0) {
                    return false;
                }
                opened[top] = AND + pair;
                lefts[top] = last;
                wanting = true;
                return true;
            }
            if (sign != ')') {
                return false;
            }
            depth = top;
            finish(draft, draft.add(opened[top], lefts[top], last));
            return true;
        }

        /** PART k is whole, and so is each - that stands right before it. */
        private void finish(Sentence draft, int k) {
            last = k;
            wanting = false;
            while (depth > 0 && opened[depth - 1] == OPEN_NOT) {
                depth--;
                last = draft.add(IMPLIES, last, draft.add(FALSE, NONE, NONE));
            }
        }
    }

    /**
     * The WORLDS of a SENTENCE.
     *
     * A set of PARTS is a WORLD just if, first, it fits within itself: it has not F, it has
     * ( A & B ) if it has both and ( A | B ) if it has either, it has ( A > B ) if it has B,
     * and not if it has A without B; and if, second, for each ( A > B ) that it has not,
     * it or a WORLD ABOVE it has A without B. For such sets are a model of strict logic
     * in which just the PARTS in a set hold there; and where W does not tell ( A > B ),
     * W with A does not tell B, and grows to a WORLD without B.
     */
    private static final class Frame {
        private static final int MOST_SETS = 1 << MOST_PARTS;
        private static final int OUT = 1, IN = 2;

        private final Sentence sentence = new Sentence();
        /** Rising as numbers; the WORLDS stand from first on to below end. */
        private final int[] sets = new int[MOST_SETS];
        /** The PARTS ( A > B ) for which the WORLD has A without B. */
        private final int[] denied = new int[MOST_SETS];
        private final int[] heights = new int[MOST_SETS];
        private int first = 0;
        private int end = 0;

        void turnTo(Sentence asked) {
            if (sentence.sameAs(asked)) {
                return;
            }
            sentence.copyFrom(asked);
            sets[0] = 0;
            end = 1;
            for (int k = 0; k < sentence.size; k++) {
                decide(k);
            }
            sift();
        }

        /** Goes from the sets that fit within themselves below PART k to those with k told too. */
        private void decide(int k) {
            int without = 0;
            int with = 0;
            for (int i = 0; i < end; i++) {
                int set = sets[i];
                int ways = waysOf(k, set);
                if ((ways & IN) != 0) {
                    denied[with] = set | 1 << k;
                    with++;
                }
                if ((ways & OUT) != 0) {
                    sets[without] = set;
                    without++;
                }
            }
            System.arraycopy(denied, 0, sets, without, with);
            end = without + with;
        }

        private int waysOf(int k, int set) {
            int a = sentence.left[k];
            int b = sentence.right[k];
            switch (sentence.kind[k]) {
                case ATOM:
                    return IN | OUT;
                case AND:
                    return has(set, a) && has(set, b) ? IN : OUT;
                case OR:
                    return has(set, a) || has(set, b) ? IN : OUT;
                case IMPLIES:
                    return has(set, b) ? IN : has(set, a) ? OUT : IN | OUT;
                default:
                    return OUT;
            }
        }

        /** What lies ABOVE a set is greater as a number, so one way down finds all WORLDS. */
        private void sift() {
            int implications = implications();
            first = end;
            for (int i = end - 1; i >= 0; i--) {
                consider(sets[i], implications & ~sets[i]);
            }
        }

        private int implications() {
            int found = 0;
            for (int k = 0; k < sentence.size; k++) {
                if (sentence.kind[k] == IMPLIES) {
                    found |= 1 << k;
                }
            }
            return found;
        }

        private void consider(int set, int missing) {
            int here = deniedBy(set, missing);
            int open = missing & ~here;
            int height = 0;
            for (int i = first; i < end; i++) {
                if ((sets[i] & set) == set) {
                    open &= ~denied[i];
                    height = Math.max(height, heights[i] + 1);
                }
            }
            if (open == 0 && first > 0) {
                first--;
                sets[first] = set;
                denied[first] = here;
                heights[first] = height;
            }
        }

        private int deniedBy(int set, int missing) {
            int found = 0;
            for (int k = 0; k < sentence.size; k++) {
                if ((missing >>> k & set >>> sentence.left[k] & 1) != 0) {
                    found |= 1 << k;
                }
            }
            return found;
        }

        /** Whether PART k FOLLOWS from the PARTS of a set: each WORLD that has these has it. */
        boolean forces(int set, int k) {
            for (int i = first; i < end; i++) {
                if ((sets[i] & set) == set && !has(sets[i], k)) {
                    return false;
                }
            }
            return true;
        }

        int size() {
            return end - first;
        }

        int setAt(int i) {
            return sets[first + i];
        }

        int heightAt(int i) {
            return heights[first + i];
        }

        int above(int i) {
            int set = setAt(i);
            int found = 0;
            for (int j = first + i + 1; j < end; j++) {
                if ((sets[j] & set) == set) {
                    found++;
                }
            }
            return found;
        }

        int refuting() {
            int found = 0;
            for (int i = first; i < end; i++) {
                if (!has(sets[i], sentence.root())) {
                    found++;
                }
            }
            return found;
        }

        /** The SENTENCE is the last PART, so the WORLDS that REFUTE it come first. */
        int leastRefuting() {
            return first < end && !has(sets[first], sentence.root()) ? sets[first] : NONE;
        }

        int highest() {
            int found = 0;
            for (int i = first; i < end; i++) {
                if (heights[i] == 0) {
                    found++;
                }
            }
            return found;
        }

        int greatestHeight() {
            int greatest = 0;
            for (int i = first; i < end; i++) {
                greatest = Math.max(greatest, heights[i]);
            }
            return greatest;
        }

        int lowest() {
            int found = 0;
            for (int i = first; i < end; i++) {
                if (!isAboveAny(i)) {
                    found++;
                }
            }
            return found;
        }

        private boolean isAboveAny(int i) {
            for (int j = first; j < i; j++) {
                if ((sets[j] & sets[i]) == sets[j]) {
                    return true;
                }
            }
            return false;
        }
    }
}
