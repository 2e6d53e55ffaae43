/** What the tests share: a call's answer against the one that is due, and texts said sign by sign. */
final class Check {
    /** Slots that there are not: just outside, and as far as a number goes. */
    static final int[] NO_SLOTS = {-1, 6, Integer.MIN_VALUE, Integer.MAX_VALUE};
    static final int LEAST = Integer.MIN_VALUE;
    static final int GREATEST = Integer.MAX_VALUE;

    private static int wrong = 0;
    private static int asked = 0;
    private static String standsFor = "";

    private Check() {
    }

    /** Runs the test of one sentence of the document; what fails in it is told with that sentence. */
    static void promise(int number, String sentence, Runnable test) {
        holds("promise " + number + " says '" + sentence + "'", Document.says(number, sentence));
        standsFor = (number == Document.TERMS ? "terms" : "promise " + number) + ", '" + sentence + "': ";
        int before = asked;
        test.run();
        holds("something was asked", asked > before);
        standsFor = "";
    }

    static void due(String call, long got, long want) {
        asked++;
        if (got != want) {
            wrong++;
            System.out.println(standsFor + call + " answered " + got + ", due is " + want);
        }
    }

    static void due(String call, String got, String want) {
        asked++;
        if (!got.equals(want)) {
            wrong++;
            System.out.println(standsFor + call + " answered " + got + ", due is " + want);
        }
    }

    static void holds(String what, boolean so) {
        due(what, so ? 1 : 0, 1);
    }

    static void say(StrictSentences x, String text) {
        for (int i = 0; i < text.length(); i++) {
            due("say " + text.charAt(i) + " of " + text, x.say(text.charAt(i)), i + 1);
        }
    }

    /** Reads a text into a SLOT and answers what read() does. */
    static int put(StrictSentences x, int slot, String text) {
        say(x, text);
        return x.read(slot);
    }

    static StrictSentences holding(String... texts) {
        StrictSentences x = new StrictSentences();
        for (int s = 0; s < texts.length; s++) {
            holds("read of " + texts[s], put(x, s, texts[s]) > 0);
        }
        return x;
    }

    /** The SENTENCE of a SLOT as its signs tell it. */
    static String written(StrictSentences x, int slot) {
        StringBuilder signs = new StringBuilder();
        int length = x.sign(slot, -1);
        for (int k = 0; k < length; k++) {
            signs.append((char) x.sign(slot, k));
        }
        return signs.toString();
    }

    /** The number of a PART; both are told as they are written out. */
    static int numberOf(String part, String whole) {
        int parts = holding(whole).count(10);
        for (int k = 0; k < parts; k++) {
            StrictSentences x = holding(whole);
            x.part(1, 0, k);
            if (written(x, 1).equals(part)) {
                return k;
            }
        }
        holds(part + " is a part of " + whole, false);
        return 0;
    }

    static void end() {
        System.out.println(asked + " answers, " + wrong + " not as due");
        if (wrong != 0) {
            System.exit(1);
        }
    }
}
