/** Promises 17 to 19, ordinary inputs; their boundary cases stand in ImagesBoundsTest. */
public final class ImagesTest {
    public static void main(String[] args) {
        imageAndRestore();
        counts();
        Check.end();
    }

    private static void imageAndRestore() {
        StrictSentences x = Check.holding("p", "(q&r)");
        Check.due("image 0", x.image(0), 1);
        x.drop(0);
        Check.put(x, 1, "-s");
        Check.put(x, 5, "F");
        Check.due("image 1", x.image(1), 1);
        Check.due("both are kept", x.count(5), 3);
        Check.due("restore 0", x.restore(0), 1);
        Check.holds("slot 0 is there", "p".equals(Check.written(x, 0)));
        Check.holds("slot 1 is as it was", "(q&r)".equals(Check.written(x, 1)));
        Check.due("slot 5 is empty as it was", x.count(15), 0);
        Check.due("two are held", x.count(0), 2);
        Check.due("restore 1", x.restore(1), 1);
        Check.due("slot 0 is empty", x.count(10), 0);
        Check.holds("slot 1 is the later one", "(s>F)".equals(Check.written(x, 1)));
        Check.due("slot 5 holds F", x.sign(5, 0), 'F');
        x.make(1, 1, 5, 2);
        Check.due("what is made is not in the image", x.restore(1), 1);
        Check.due("the image stays", x.count(11), 3);
        Check.due("in place of what was kept", x.image(0), 1);
        x.drop(1);
        x.restore(0);
        Check.due("the newer one", x.count(11), 3);
        Check.due("still both", x.count(5), 3);
    }

    private static void counts() {
        StrictSentences x = Check.holding("(p>p)", "(p|-p)", "p", "(p|(p>F))", "--(p|-p)");
        Check.due("held", x.count(0), 5);
        Check.due("plain", x.count(1), 2);
        Check.due("by rows, not plain", x.count(2), 2);
        Check.due("unlike", x.count(3), 4);
        Check.due("signs", x.count(4), 0);
        Check.say(x, "q)");
        Check.due("signs said", x.count(4), 2);
        int[] parts = {2, 4, 1, 4, 6, 0};
        for (int s = 0; s < 6; s++) {
            Check.due("parts of " + s, x.count(10 + s), parts[s]);
        }
        StrictSentences y = Check.holding("p", "q", "p", "q", "p", "r");
        Check.due("unlike atoms", y.count(3), 3);
        Check.due("no plain", y.count(1), 0);
        Check.due("all held", y.count(0), 6);
        y.drop(5);
        Check.due("unlike, the last is empty", y.count(3), 2);
        StrictSentences z = Check.holding("(p&q)", "(q&p)", "(p|q)", "(p>q)");
        Check.due("unlike pairs", z.count(3), 4);
    }
}
