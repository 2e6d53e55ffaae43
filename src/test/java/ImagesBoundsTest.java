/** The boundary cases of promises 17 to 19: image, restore, count. */
public final class ImagesBoundsTest {
    /** Just outside, and numbers that are 0 or 1 if only their lower bits are looked at. */
    private static final int[] NO_IMAGES = {-1, 2, 3, 32, 33, 256, Check.LEAST, Check.LEAST + 1, Check.GREATEST};

    public static void main(String[] args) {
        promise17();
        promise18();
        promise19();
        Check.end();
    }

    private static void promise17() {
        Check.promise(17, "All SLOTS are kept in an IMAGE (0, 1)", ImagesBoundsTest::allSlotsAreKept);
        Check.promise(17, "in place of what was kept there", ImagesBoundsTest::inPlaceOfIt);
        Check.promise(17, "OUTSIDE", ImagesBoundsTest::imageOutside);
    }

    private static void promise18() {
        Check.promise(18, "They hold what they held when that was kept", ImagesBoundsTest::asWhenKept);
        Check.promise(18, "the IMAGE stays", ImagesBoundsTest::theImageStays);
        Check.promise(18, "OUTSIDE", ImagesBoundsTest::restoreOutside);
        Check.promise(18, "STATE: nothing was kept in it", ImagesBoundsTest::nothingKept);
    }

    private static void promise19() {
        Check.promise(19, "How many SLOTS are not empty (0)", ImagesBoundsTest::countHeld);
        Check.promise(19, "how many hold a PLAIN SENTENCE (1)", ImagesBoundsTest::countPlain);
        Check.promise(19, "one that is TRUE BY ROWS and not PLAIN (2)", ImagesBoundsTest::countByRows);
        Check.promise(19, "how many unlike SENTENCES they hold (3)", ImagesBoundsTest::countUnlike);
        Check.promise(19, "signs of THE TEXT (4)", ImagesBoundsTest::countSigns);
        Check.promise(19, "which IMAGES are kept, a set: bits 0, 1 (5)", ImagesBoundsTest::countImages);
        Check.promise(19, "how many PARTS the SENTENCE of SLOT s has (10 and s; 0: it is empty)",
                ImagesBoundsTest::countParts);
        Check.promise(19, "OUTSIDE", ImagesBoundsTest::countOutside);
    }

    /** The SENTENCES of all SLOTS, one behind the other. */
    private static String held(StrictSentences x) {
        StringBuilder all = new StringBuilder();
        for (int slot = 0; slot < 6; slot++) {
            all.append(slot == 0 ? "" : " ").append(Check.written(x, slot));
        }
        return all.toString();
    }

    private static void dropAll(StrictSentences x) {
        for (int slot = 0; slot < 6; slot++) {
            x.drop(slot);
        }
    }

    private static void allSlotsAreKept() {
        for (int k = 0; k <= 1; k++) {
            StrictSentences x = Check.holding("p", "(q&r)", "F", "-F", "s", "(p|q)");
            String all = held(x);
            Check.due("image " + k, x.image(k), 1);
            Check.due("the slots are left", held(x), all);
            dropAll(x);
            Check.due("all are empty", x.count(0), 0);
            Check.due("restore " + k, x.restore(k), 1);
            Check.due("all are back", held(x), all);
        }
        StrictSentences y = new StrictSentences();
        Check.due("an image of empty slots", y.image(0), 1);
        Check.put(y, 3, "q");
        Check.due("is one all the same", y.restore(0), 1);
        Check.due("all are empty then", y.count(0), 0);
    }

    private static void inPlaceOfIt() {
        StrictSentences x = Check.holding("p", "q", "r");
        x.image(0);
        x.image(1);
        x.drop(1);
        Check.put(x, 0, "s");
        Check.due("image 0 once more", x.image(0), 1);
        dropAll(x);
        x.restore(0);
        Check.due("what was kept last", held(x), "s  r   ");
        x.restore(1);
        Check.due("the other image is as it was", held(x), "p q r   ");
        dropAll(x);
        Check.due("an image of nothing, in place of it", x.image(1), 1);
        x.restore(0);
        x.restore(1);
        Check.due("nothing is held then", x.count(0), 0);
    }

    private static void imageOutside() {
        StrictSentences x = Check.holding("p");
        for (int k : NO_IMAGES) {
            Check.due("image " + k, x.image(k), StrictSentences.OUTSIDE);
            Check.due("kept after image " + k, x.count(5), 0);
        }
    }

    private static void asWhenKept() {
        StrictSentences x = Check.holding("p", "(q>r)");
        x.image(0);
        x.drop(0);
        Check.put(x, 1, "(((p&q)|(r>s))>((q&p)|(s>r)))");
        Check.put(x, 5, "F");
        Check.due("restore", x.restore(0), 1);
        Check.due("one that was dropped, one read over, one that was empty", held(x), "p (q>r)    ");
        Check.due("parts of the one read over", x.count(11), 3);
        Check.due("rows of it", x.rows(1), 0);
        Check.due("worlds of it", x.worlds(1, 0), 5);
        Check.due("a set that it has not", x.from(1, 8, 0), StrictSentences.OUTSIDE);
        Check.say(x, "(p");
        x.read(0);
        x.say('&');
        x.restore(0);
        Check.due("the text is no slot", x.count(4), 3);
        Check.due("nor is the fault", x.fault(), 2);
    }

    private static void theImageStays() {
        StrictSentences x = Check.holding("p", "q");
        x.image(1);
        for (int times = 0; times < 3; times++) {
            x.make(0, 0, 1, 2);
            x.make(1, 0, 0, 0);
            x.part(2, 0, 1);
            Check.due("restore, time " + times, x.restore(1), 1);
            Check.due("what was kept", held(x), "p q    ");
            Check.due("it is kept", x.count(5), 2);
        }
    }

    private static void restoreOutside() {
        StrictSentences x = Check.holding("p");
        x.image(0);
        x.image(1);
        x.drop(0);
        for (int k : NO_IMAGES) {
            Check.due("restore " + k, x.restore(k), StrictSentences.OUTSIDE);
        }
        Check.due("nothing came back", x.count(0), 0);
    }

    private static void nothingKept() {
        StrictSentences x = Check.holding("p");
        Check.due("restore 0", x.restore(0), StrictSentences.STATE);
        Check.due("restore 1", x.restore(1), StrictSentences.STATE);
        x.image(0);
        Check.due("restore 1, image 0 is kept", x.restore(1), StrictSentences.STATE);
        Check.due("restore 0", x.restore(0), 1);
        StrictSentences y = Check.holding("p");
        y.image(1);
        Check.due("restore 0, image 1 is kept", y.restore(0), StrictSentences.STATE);
        Check.due("the slot is left", held(y), "p     ");
    }

    private static void countHeld() {
        StrictSentences x = new StrictSentences();
        for (int slot = 0; slot < 6; slot++) {
            Check.due("held before slot " + slot, x.count(0), slot);
            Check.put(x, slot, "p");
        }
        Check.due("all", x.count(0), 6);
        dropAll(x);
        Check.due("none", x.count(0), 0);
    }

    private static void countPlain() {
        Check.due("none is held", new StrictSentences().count(1), 0);
        Check.due("none is plain", Check.holding("p", "F", "(p|-p)").count(1), 0);
        Check.due("all, alike or not", Check.holding("-F", "-F", "(p>p)", "(F>p)", "--(p|-p)", "-F").count(1), 6);
        StrictSentences x = Check.holding("p", "q", "r", "s", "F", "-F");
        Check.due("the last alone", x.count(1), 1);
        x.drop(5);
        Check.due("which is dropped", x.count(1), 0);
    }

    private static void countByRows() {
        Check.due("none is held", new StrictSentences().count(2), 0);
        Check.due("plain or not by rows", Check.holding("p", "F", "(p>p)", "-F").count(2), 0);
        Check.due("all, alike or not",
                Check.holding("(p|-p)", "(p|-p)", "(--p>p)", "(-p|--p)", "(q|-q)", "((p>q)|(q>p))").count(2), 6);
        Check.due("mixed", Check.holding("(p|-p)", "(p>p)", "p", "F", "-F", "(q|-q)").count(2), 2);
    }

    private static void countUnlike() {
        Check.due("none is held", new StrictSentences().count(3), 0);
        Check.due("all alike", Check.holding("p", "p", "p", "p", "p", "p").count(3), 1);
        Check.due("all unlike", Check.holding("p", "q", "r", "s", "F", "-F").count(3), 6);
        Check.due("one of each kind", Check.holding("(p&q)", "(p|q)", "(p>q)", "(q&p)", "(q|p)", "(q>p)").count(3), 6);
        Check.due("told otherwise", Check.holding("-p", "(p>F)").count(3), 1);
        StrictSentences x = Check.holding("-q", "q", "F");
        Check.due("made like one that was read", x.make(3, 1, 2, 2), 3);
        x.part(4, 0, 0);
        Check.due("and a part like another", x.count(3), 3);
        x.drop(0);
        Check.due("the other of two is left", x.count(3), 3);
        x.drop(3);
        Check.due("none of them is left", x.count(3), 2);
    }

    private static void countSigns() {
        StrictSentences x = new StrictSentences();
        Check.due("at first", x.count(4), 0);
        Check.say(x, "-".repeat(40));
        Check.due("full", x.count(4), 40);
        x.say('-');
        Check.due("one too many", x.count(4), 40);
        x.wipe();
        Check.due("wiped", x.count(4), 0);
    }

    private static void countImages() {
        StrictSentences x = Check.holding("p");
        Check.due("none", x.count(5), 0);
        x.image(1);
        Check.due("image 1", x.count(5), 2);
        x.image(1);
        Check.due("image 1 twice", x.count(5), 2);
        x.image(0);
        Check.due("both", x.count(5), 3);
        x.restore(0);
        x.restore(1);
        Check.due("both, restored", x.count(5), 3);
        StrictSentences y = new StrictSentences();
        y.image(0);
        Check.due("image 0", y.count(5), 1);
    }

    private static void countParts() {
        String[] texts = {"---------p", "p", "(p&q)", "-F", "(q|q)", "((p|q)&(r|s))"};
        int[] parts = {11, 1, 3, 2, 2, 7};
        StrictSentences x = Check.holding(texts);
        for (int slot = 0; slot < 6; slot++) {
            Check.due("parts of slot " + slot, x.count(10 + slot), parts[slot]);
            x.drop(slot);
            Check.due("parts of empty slot " + slot, x.count(10 + slot), 0);
        }
    }

    private static void countOutside() {
        StrictSentences x = Check.holding("p", "q", "r", "s", "F", "-F");
        int[] outside = {-1, -10, 6, 7, 8, 9, 16, 17, 20, 32, 42, Check.LEAST, Check.LEAST + 9, Check.LEAST + 10,
            Check.LEAST + 15, Check.GREATEST, Check.GREATEST - 5};
        for (int what : outside) {
            Check.due("count " + what, x.count(what), StrictSentences.OUTSIDE);
        }
    }
}
