/** Promises 17 to 19. */
public final class ImagesTest {
    public static void main(String[] args) {
        imageAndRestore();
        onlySlotsAreKept();
        imagesRefuse();
        counts();
        countsRefuse();
        Check.end();
    }

    private static void imageAndRestore() {
        StrictSentences x = Check.holding("p", "(q&r)");
        Check.due("image 0", x.image(0), 1);
        x.drop(0);
        Check.put(x, 1, "-s");
        Check.put(x, 5, "F");
        Check.due("image 1", x.image(1), 1);
        Check.due("both are kept", x.count(5), 3);
        Check.due("restore 0", x.restore(0), 1);
        Check.holds("slot 0 is there", "p".equals(Check.written(x, 0)));
        Check.holds("slot 1 is as it was", "(q&r)".equals(Check.written(x, 1)));
        Check.due("slot 5 is empty as it was", x.count(15), 0);
        Check.due("two are held", x.count(0), 2);
        Check.due("restore 1", x.restore(1), 1);
        Check.due("slot 0 is empty", x.count(10), 0);
        Check.holds("slot 1 is the later one", "(s>F)".equals(Check.written(x, 1)));
        Check.due("slot 5 holds F", x.sign(5, 0), 'F');
        x.make(1, 1, 5, 2);
        Check.due("what is made is not in the image", x.restore(1), 1);
        Check.due("the image stays", x.count(11), 3);
        Check.due("in place of what was kept", x.image(0), 1);
        x.drop(1);
        x.restore(0);
        Check.due("the newer one", x.count(11), 3);
        Check.due("still both", x.count(5), 3);
    }

    private static void onlySlotsAreKept() {
        StrictSentences x = Check.holding("p");
        Check.say(x, "(p");
        Check.due("image", x.image(1), 1);
        Check.due("only image 1", x.count(5), 2);
        Check.due("a fault", x.read(0), StrictSentences.FAULT);
        x.say('&');
        x.restore(1);
        Check.due("the text is not restored", x.count(4), 3);
        Check.due("nor the fault", x.fault(), 2);
        Check.due("an image of empty slots", new StrictSentences().image(0), 1);
        StrictSentences y = new StrictSentences();
        y.image(0);
        Check.put(y, 3, "q");
        Check.due("restore empty slots", y.restore(0), 1);
        Check.due("all are empty", y.count(0), 0);
    }

    private static void imagesRefuse() {
        StrictSentences x = Check.holding("p");
        int[] outside = {-1, 2, 32, 33, Integer.MIN_VALUE, Integer.MAX_VALUE};
        for (int k : outside) {
            Check.due("image " + k, x.image(k), StrictSentences.OUTSIDE);
            Check.due("restore " + k, x.restore(k), StrictSentences.OUTSIDE);
        }
        Check.due("none is kept", x.count(5), 0);
        x.image(0);
        Check.due("restore what was not kept", x.restore(1), StrictSentences.STATE);
        Check.due("image 0 alone", x.count(5), 1);
        x.drop(0);
        Check.due("refused", x.restore(1), StrictSentences.STATE);
        Check.due("refused changes nothing", x.count(0), 0);
    }

    private static void counts() {
        StrictSentences x = Check.holding("(p>p)", "(p|-p)", "p", "(p|(p>F))", "--(p|-p)");
        Check.due("held", x.count(0), 5);
        Check.due("plain", x.count(1), 2);
        Check.due("by rows, not plain", x.count(2), 2);
        Check.due("unlike", x.count(3), 4);
        Check.due("signs", x.count(4), 0);
        Check.say(x, "q)");
        Check.due("signs said", x.count(4), 2);
        int[] parts = {2, 4, 1, 4, 6, 0};
        for (int s = 0; s < 6; s++) {
            Check.due("parts of " + s, x.count(10 + s), parts[s]);
        }
        StrictSentences y = Check.holding("p", "q", "p", "q", "p", "r");
        Check.due("unlike atoms", y.count(3), 3);
        Check.due("no plain", y.count(1), 0);
        Check.due("all held", y.count(0), 6);
        y.drop(5);
        Check.due("unlike, the last is empty", y.count(3), 2);
        StrictSentences z = Check.holding("(p&q)", "(q&p)", "(p|q)", "(p>q)");
        Check.due("unlike pairs", z.count(3), 4);
    }

    private static void countsRefuse() {
        StrictSentences x = Check.holding("p");
        int[] outside = {-1, 6, 7, 8, 9, 16, 17, 100, Integer.MIN_VALUE, Integer.MIN_VALUE + 10, Integer.MAX_VALUE};
        for (int what : outside) {
            Check.due("count " + what, x.count(what), StrictSentences.OUTSIDE);
        }
    }
}
