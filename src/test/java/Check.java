/** What the tests share: a call's answer against the one that is due, and texts said sign by sign. */
final class Check {
    private static int wrong = 0;
    private static int asked = 0;

    private Check() {
    }

    static void due(String call, long got, long want) {
        asked++;
        if (got != want) {
            wrong++;
            System.out.println(call + " answered " + got + ", due is " + want);
        }
    }

    static void holds(String what, boolean so) {
        due(what, so ? 1 : 0, 1);
    }

    static void say(StrictSentences x, String text) {
        for (int i = 0; i < text.length(); i++) {
            due("say " + text.charAt(i) + " of " + text, x.say(text.charAt(i)), i + 1);
        }
    }

    /** Reads a text into a SLOT and answers what read() does. */
    static int put(StrictSentences x, int slot, String text) {
        say(x, text);
        return x.read(slot);
    }

    static StrictSentences holding(String... texts) {
        StrictSentences x = new StrictSentences();
        for (int s = 0; s < texts.length; s++) {
            holds("read of " + texts[s], put(x, s, texts[s]) > 0);
        }
        return x;
    }

    /** The SENTENCE of a SLOT as its signs tell it. */
    static String written(StrictSentences x, int slot) {
        StringBuilder signs = new StringBuilder();
        int length = x.sign(slot, -1);
        for (int k = 0; k < length; k++) {
            signs.append((char) x.sign(slot, k));
        }
        return signs.toString();
    }

    static void end() {
        System.out.println(asked + " answers, " + wrong + " not as due");
        if (wrong != 0) {
            System.exit(1);
        }
    }
}
