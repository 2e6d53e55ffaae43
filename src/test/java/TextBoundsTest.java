/** The boundary cases of promises 1 to 5: a new object, say, wipe, read, fault. */
public final class TextBoundsTest {
    private static final int MOST_SIGNS = 40;
    private static final String ELEVEN_PARTS = "---------p";
    private static final String TWELVE_PARTS = "----------p";

    public static void main(String[] args) {
        promise1();
        promise2();
        promise3();
        promise4();
        promise5();
        Check.end();
    }

    private static void promise1() {
        Check.promise(1, "All SLOTS and THE TEXT are empty", TextBoundsTest::newSlotsAreEmpty);
        Check.promise(1, "THE TEXT are empty", TextBoundsTest::newTextIsEmpty);
        Check.promise(1, "no FAULT", TextBoundsTest::newFaultIsNone);
        Check.promise(1, "no IMAGE", TextBoundsTest::newImagesAreNone);
    }

    private static void promise2() {
        Check.promise(2, "A sign more: how many THE TEXT has", TextBoundsTest::signsAreCounted);
        Check.promise(2, "OUTSIDE: it is not 33 to 126", TextBoundsTest::signsOutside);
        Check.promise(2, "FULL", TextBoundsTest::textIsFull);
    }

    private static void promise3() {
        Check.promise(3, "how many signs it had", TextBoundsTest::wipeTellsSigns);
        Check.promise(3, "THE TEXT is empty", TextBoundsTest::wipedTextIsEmpty);
    }

    private static void promise4() {
        Check.promise(4, "A SLOT holds the SENTENCE that THE TEXT is", TextBoundsTest::readIntoEachSlot);
        Check.promise(4, "THE TEXT is empty then", TextBoundsTest::readEmptiesTheText);
        Check.promise(4, "how many PARTS it has", TextBoundsTest::readTellsParts);
        Check.promise(4, "UNKNOWN", TextBoundsTest::readUnknown);
        Check.promise(4, "FAULT", TextBoundsTest::readFault);
        Check.promise(4, "FULL: it is LARGE", TextBoundsTest::readFull);
    }

    private static void promise5() {
        Check.promise(5, "The place of the FAULT that a read() told last", TextBoundsTest::faultToldLast);
        Check.promise(5, "one that tells none", TextBoundsTest::readWithoutFaultLeavesIt);
        Check.promise(5, "or FULL, leaves it", TextBoundsTest::fullReadLeavesIt);
        Check.promise(5, "that a read() told", TextBoundsTest::otherCallsLeaveIt);
        Check.promise(5, "NONE: none was told yet", TextBoundsTest::noFaultYet);
    }

    private static void newSlotsAreEmpty() {
        StrictSentences x = new StrictSentences();
        Check.due("slots that are not empty", x.count(0), 0);
        for (int slot = 0; slot < 6; slot++) {
            Check.due("parts of slot " + slot, x.count(10 + slot), 0);
            Check.due("drop " + slot, x.drop(slot), 0);
        }
        StrictSentences used = Check.holding("p");
        Check.due("a newer object shares nothing", new StrictSentences().count(0), 0);
        Check.due("nor takes anything", used.count(0), 1);
    }

    private static void newTextIsEmpty() {
        Check.due("signs", new StrictSentences().count(4), 0);
        Check.due("wipe", new StrictSentences().wipe(), 0);
        Check.due("the first sign", new StrictSentences().say('p'), 1);
    }

    private static void newFaultIsNone() {
        Check.due("fault", new StrictSentences().fault(), StrictSentences.NONE);
    }

    private static void newImagesAreNone() {
        StrictSentences x = new StrictSentences();
        Check.due("images", x.count(5), 0);
        Check.due("restore 0", x.restore(0), StrictSentences.STATE);
        Check.due("restore 1", x.restore(1), StrictSentences.STATE);
    }

    private static StrictSentences withFullText() {
        StrictSentences x = new StrictSentences();
        Check.say(x, "(".repeat(MOST_SIGNS));
        return x;
    }

    private static void signsAreCounted() {
        StrictSentences x = new StrictSentences();
        for (int i = 1; i <= MOST_SIGNS; i++) {
            Check.due("sign " + i, x.say('q'), i);
            Check.due("signs of the text", x.count(4), i);
        }
    }

    private static void signsOutside() {
        for (int sign = 33; sign <= 126; sign++) {
            Check.due("say " + sign, new StrictSentences().say(sign), 1);
        }
        // the last of them are a p, if only their lower bits are looked at
        int[] outside = {32, 127, 31, 128, 0, -1, -33, -126, 256 + 'p', 65536 + 'p', Check.LEAST, Check.LEAST + 'p',
            Check.GREATEST};
        StrictSentences x = new StrictSentences();
        for (int sign : outside) {
            Check.due("say " + sign, x.say(sign), StrictSentences.OUTSIDE);
            Check.due("signs after " + sign, x.count(4), 0);
        }
    }

    private static void textIsFull() {
        StrictSentences x = withFullText();
        Check.due("sign 41", x.say('('), StrictSentences.FULL);
        Check.due("sign 41 again", x.say('p'), StrictSentences.FULL);
        Check.due("signs", x.count(4), MOST_SIGNS);
        Check.due("a read that tells a fault", x.read(0), StrictSentences.FAULT);
        Check.due("still full", x.say(')'), StrictSentences.FULL);
        Check.due("the fault is behind the 40 signs", x.fault(), MOST_SIGNS);
    }

    private static void wipeTellsSigns() {
        Check.due("wipe of an empty text", new StrictSentences().wipe(), 0);
        StrictSentences x = new StrictSentences();
        x.say('p');
        Check.due("wipe of one sign", x.wipe(), 1);
        Check.due("wipe again", x.wipe(), 0);
        Check.due("wipe of a full text", withFullText().wipe(), MOST_SIGNS);
    }

    private static void wipedTextIsEmpty() {
        StrictSentences x = withFullText();
        x.wipe();
        Check.due("signs", x.count(4), 0);
        Check.due("no sign is left", x.read(0), StrictSentences.FAULT);
        Check.due("the fault is at 0", x.fault(), 0);
        Check.say(x, "-".repeat(MOST_SIGNS));
        Check.due("full again", x.say('-'), StrictSentences.FULL);
        x.wipe();
        Check.due("a new sentence", Check.put(x, 0, "q"), 1);
        Check.due("has no old sign", Check.written(x, 0), "q");
    }

    private static void readIntoEachSlot() {
        for (int slot = 0; slot < 6; slot++) {
            StrictSentences x = new StrictSentences();
            Check.due("read into " + slot, Check.put(x, slot, "(r|s)"), 3);
            Check.due("slot " + slot, Check.written(x, slot), "(r|s)");
            Check.due("no other slot", x.count(0), 1);
            Check.due("read over it", Check.put(x, slot, "F"), 1);
            Check.due("slot " + slot + " then", Check.written(x, slot), "F");
            Check.due("still no other slot", x.count(0), 1);
        }
    }

    private static void readEmptiesTheText() {
        StrictSentences x = Check.holding("(p&q)");
        Check.due("signs", x.count(4), 0);
        Check.due("nothing to read again", x.read(1), StrictSentences.FAULT);
        Check.due("at 0", x.fault(), 0);
        Check.due("nothing to wipe", x.wipe(), 0);
        String longest = "---(((p&q)&(p&q))|(((p&q)&(p&q))>(p&q)))";
        Check.due("a full text is read", Check.put(x, 2, longest), 10);
        Check.due("say is not full then", x.say('p'), 1);
    }

    private static void readTellsParts() {
        for (int parts = 3; parts <= 11; parts++) {
            StrictSentences x = new StrictSentences();
            Check.due("parts", Check.put(x, 0, "-".repeat(parts - 2) + "p"), parts);
            Check.due("parts of the slot", x.count(10), parts);
        }
        Check.due("one part", Check.put(new StrictSentences(), 0, "s"), 1);
        Check.due("two parts", Check.put(new StrictSentences(), 0, "(s|s)"), 2);
    }

    private static void readUnknown() {
        StrictSentences x = new StrictSentences();
        Check.say(x, "p");
        for (int slot : Check.NO_SLOTS) {
            Check.due("read " + slot, x.read(slot), StrictSentences.UNKNOWN);
        }
        Check.due("the text is left", x.count(4), 1);
        Check.due("and can be read", x.read(5), 1);
    }

    private static void readFault() {
        StrictSentences x = Check.holding("q");
        Check.due("an empty text", x.read(0), StrictSentences.FAULT);
        Check.due("a text that is not whole", Check.put(x, 0, "(p&r"), StrictSentences.FAULT);
        Check.due("the text is left", x.count(4), 4);
        Check.due("the slot is left", Check.written(x, 0), "q");
        x.say(')');
        Check.due("it is whole then", x.read(0), 3);
        Check.due("and holds all signs", Check.written(x, 0), "(p&r)");
        Check.due("too much", Check.put(x, 0, "pq"), StrictSentences.FAULT);
    }

    private static void readFull() {
        StrictSentences x = new StrictSentences();
        Check.due("11 parts", Check.put(x, 0, ELEVEN_PARTS), 11);
        Check.due("12 parts", Check.put(x, 0, TWELVE_PARTS), StrictSentences.FULL);
        Check.due("the slot is left", x.count(10), 11);
        Check.due("the text is left", x.count(4), TWELVE_PARTS.length());
        Check.due("into an empty slot", x.read(1), StrictSentences.FULL);
        Check.due("that is empty still", x.count(11), 0);
        Check.due("wipe", x.wipe(), TWELVE_PARTS.length());
        Check.due("12 parts of a pair", Check.put(x, 1, "((((p&q)|(r>s))>((q&p)|(s>r)))&p)"), StrictSentences.FULL);
        x.wipe();
        Check.due("41 parts", Check.put(x, 1, "-".repeat(39) + "q"), StrictSentences.FULL);
        x.wipe();
        Check.due("11 parts after that", Check.put(x, 1, ELEVEN_PARTS), 11);
        Check.due("many signs, few parts", Check.put(x, 2, "(((p&p)&(p&p))|((p&p)&(p&p)))"), 4);
    }

    private static void faultToldLast() {
        StrictSentences x = new StrictSentences();
        Check.due("first", Check.put(x, 0, "(p&&"), StrictSentences.FAULT);
        Check.due("its place", x.fault(), 3);
        x.wipe();
        Check.due("second, at a lower place", Check.put(x, 0, "(&"), StrictSentences.FAULT);
        Check.due("its place", x.fault(), 1);
        Check.due("asked again", x.fault(), 1);
        x.wipe();
        Check.due("third, of an empty text", x.read(0), StrictSentences.FAULT);
        Check.due("its place", x.fault(), 0);
    }

    private static StrictSentences withFaultAt3() {
        StrictSentences x = new StrictSentences();
        Check.due("a fault", Check.put(x, 0, "(p&&"), StrictSentences.FAULT);
        x.wipe();
        return x;
    }

    private static void readWithoutFaultLeavesIt() {
        StrictSentences x = withFaultAt3();
        Check.due("a read that tells none", Check.put(x, 0, "p"), 1);
        Check.due("the place", x.fault(), 3);
        Check.due("UNKNOWN, with a text that is none", x.read(6), StrictSentences.UNKNOWN);
        Check.due("the place", x.fault(), 3);
    }

    private static void fullReadLeavesIt() {
        StrictSentences x = withFaultAt3();
        Check.due("a large one", Check.put(x, 0, TWELVE_PARTS), StrictSentences.FULL);
        Check.due("the place", x.fault(), 3);
    }

    private static void otherCallsLeaveIt() {
        StrictSentences x = withFaultAt3();
        x.image(0);
        Check.put(x, 0, "p");
        x.make(1, 0, 0, 0);
        x.part(2, 1, 0);
        x.drop(1);
        x.say('!');
        x.wipe();
        x.restore(0);
        Check.due("the place", x.fault(), 3);
    }

    private static void noFaultYet() {
        StrictSentences x = new StrictSentences();
        Check.due("at first", x.fault(), StrictSentences.NONE);
        Check.due("UNKNOWN", x.read(-1), StrictSentences.UNKNOWN);
        Check.due("after UNKNOWN", x.fault(), StrictSentences.NONE);
        Check.put(x, 0, "p");
        Check.due("after a sentence", x.fault(), StrictSentences.NONE);
        Check.due("FULL", Check.put(x, 0, TWELVE_PARTS), StrictSentences.FULL);
        Check.due("after FULL", x.fault(), StrictSentences.NONE);
        x.say('!');
        Check.due("a fault that no read told", x.fault(), StrictSentences.NONE);
    }
}
