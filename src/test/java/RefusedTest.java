import java.util.function.Consumer;
import java.util.function.IntConsumer;
import java.util.function.ToIntFunction;

/** Refused calls of all promises: the first refusal that fits is answered, and nothing is changed. */
public final class RefusedTest {
    private static final int UNKNOWN = StrictSentences.UNKNOWN;
    private static final int OUTSIDE = StrictSentences.OUTSIDE;
    private static final int STATE = StrictSentences.STATE;
    private static final int FULL = StrictSentences.FULL;
    private static final int FAULT = StrictSentences.FAULT;

    private static final String ORDER =
            "answer the first that fits, in the order in which they are told with the call";
    private static final String NO_CHANGE = "What is refused changes nothing but the place of the FAULT";

    /** SLOTS of the objects that are asked. */
    private static final int ELEVEN_PARTS = 2;
    private static final int EMPTY = 5;
    private static final int FAULT_AT = 2;

    private static final String NOT_WHOLE = "(p&";
    private static final String LARGE = "----------p";
    private static final String LARGE_AND_NOT_WHOLE = "(----------p";
    private static final String LONGEST = "---(((p&q)&(p&q))|(((p&q)&(p&q))>(p&q)))";

    public static void main(String[] args) {
        Check.promise(Document.TERMS, ORDER, RefusedTest::orderInTexts);
        Check.promise(Document.TERMS, ORDER, RefusedTest::orderInMakeAndPart);
        Check.promise(Document.TERMS, ORDER, RefusedTest::orderInSignAndTold);
        Check.promise(Document.TERMS, ORDER, RefusedTest::orderInWhatFollows);
        Check.promise(Document.TERMS, ORDER, RefusedTest::orderInWorlds);
        Check.promise(Document.TERMS, NO_CHANGE, RefusedTest::textsStay);
        Check.promise(Document.TERMS, NO_CHANGE, RefusedTest::slotsStay);
        Check.promise(Document.TERMS, NO_CHANGE, RefusedTest::imagesStay);
        Check.promise(Document.TERMS, NO_CHANGE, RefusedTest::questionsChangeNothing);
        Check.promise(Document.TERMS, "but the place of the FAULT", RefusedTest::theFaultsPlaceIsNew);
        Check.end();
    }

    /** An object with a SLOT, an IMAGE and a FAULT of all kinds, and a text in the making. */
    private static StrictSentences used(String text) {
        StrictSentences x = Check.holding("(p|-p)", "(p&q)", "---------p", "F", "(q>(p>q))");
        x.image(0);
        Check.put(x, 1, "s");
        Check.due("a fault", Check.put(x, 0, "(p)"), FAULT);
        Check.due("the place of the fault", x.fault(), FAULT_AT);
        x.wipe();
        Check.say(x, text);
        return x;
    }

    /** All that can be seen of an object but the place of the FAULT; looking changes it. */
    private static String seen(StrictSentences x) {
        StringBuilder all = new StringBuilder();
        counts(x, all);
        slots(x, all);
        // the signs of the text show only when it is read
        if (x.count(4) == NOT_WHOLE.length()) {
            x.say('r');
            x.say(')');
        }
        all.append("text ").append(x.read(EMPTY)).append(' ').append(Check.written(x, EMPTY)).append(' ');
        all.append("images ").append(x.restore(1)).append(' ').append(x.restore(0)).append(' ');
        slots(x, all);
        return all.toString();
    }

    private static void counts(StrictSentences x, StringBuilder all) {
        all.append("counts ");
        for (int what = 0; what <= 15; what++) {
            all.append(x.count(what)).append(' ');
        }
    }

    private static void slots(StrictSentences x, StringBuilder all) {
        all.append("slots ");
        for (int slot = 0; slot < 6; slot++) {
            all.append(Check.written(x, slot)).append(' ');
        }
    }

    private static void refused(String call, int due, String text, ToIntFunction<StrictSentences> asked) {
        StrictSentences x = used(text);
        Check.due(call, asked.applyAsInt(x), due);
        Check.due(call + " leaves the fault", x.fault(), FAULT_AT);
        Check.due(call + " changes nothing", seen(x), seen(used(text)));
    }

    private static void refused(String call, int due, ToIntFunction<StrictSentences> asked) {
        refused(call, due, NOT_WHOLE, asked);
    }

    private static void first(String call, int due, String text, ToIntFunction<StrictSentences> asked) {
        Check.due(call, asked.applyAsInt(used(text)), due);
    }

    private static void first(String call, int due, ToIntFunction<StrictSentences> asked) {
        first(call, due, NOT_WHOLE, asked);
    }

    private static void orderInTexts() {
        first("promise 2, say: OUTSIDE, FULL", OUTSIDE, LONGEST, x -> x.say(127));
        first("promise 2, say: OUTSIDE, FULL", OUTSIDE, LONGEST, x -> x.say(32));
        first("promise 4, read: UNKNOWN, FAULT", UNKNOWN, x -> x.read(6));
        first("promise 4, read: UNKNOWN, FULL", UNKNOWN, LARGE, x -> x.read(-1));
        first("promise 4, read: FAULT, FULL", FAULT, LARGE_AND_NOT_WHOLE, x -> x.read(0));
        first("promise 4, read: FAULT, FULL", FAULT, LARGE + "!", x -> x.read(0));
        first("promise 4, read: FAULT, FULL", FAULT, "-".repeat(40), x -> x.read(0));
    }

    private static void orderInMakeAndPart() {
        first("promise 6, make: UNKNOWN (to), OUTSIDE, STATE", UNKNOWN, x -> x.make(6, EMPTY, EMPTY, 3));
        first("promise 6, make: UNKNOWN (a), OUTSIDE, STATE", UNKNOWN, x -> x.make(0, -1, EMPTY, 3));
        first("promise 6, make: UNKNOWN (b), OUTSIDE, STATE", UNKNOWN, x -> x.make(0, EMPTY, 6, -1));
        first("promise 6, make: UNKNOWN (to), STATE", UNKNOWN, x -> x.make(-1, EMPTY, 0, 0));
        first("promise 6, make: UNKNOWN (to), FULL", UNKNOWN, x -> x.make(6, ELEVEN_PARTS, 0, 0));
        first("promise 6, make: OUTSIDE, STATE (a)", OUTSIDE, x -> x.make(0, EMPTY, 0, 3));
        first("promise 6, make: OUTSIDE, STATE (b)", OUTSIDE, x -> x.make(0, 0, EMPTY, -1));
        first("promise 6, make: OUTSIDE, FULL", OUTSIDE, x -> x.make(0, ELEVEN_PARTS, 0, 3));
        first("promise 6, make: STATE (a), FULL", STATE, x -> x.make(0, EMPTY, ELEVEN_PARTS, 0));
        first("promise 6, make: STATE (b), FULL", STATE, x -> x.make(0, ELEVEN_PARTS, EMPTY, 0));
        first("promise 7, part: UNKNOWN (to), STATE, OUTSIDE", UNKNOWN, x -> x.part(6, EMPTY, 99));
        first("promise 7, part: UNKNOWN (to), OUTSIDE", UNKNOWN, x -> x.part(-1, 0, 99));
        first("promise 7, part: UNKNOWN (from), OUTSIDE", UNKNOWN, x -> x.part(0, 6, -1));
        first("promise 7, part: STATE, OUTSIDE", STATE, x -> x.part(0, EMPTY, -1));
        first("promise 7, part: STATE, OUTSIDE", STATE, x -> x.part(0, EMPTY, 11));
    }

    private static void orderInSignAndTold() {
        first("promise 8, sign: UNKNOWN, OUTSIDE", UNKNOWN, x -> x.sign(6, -2));
        first("promise 8, sign: OUTSIDE, STATE", OUTSIDE, x -> x.sign(EMPTY, -2));
        first("promise 8, sign: STATE, no NONE", STATE, x -> x.sign(EMPTY, 0));
        first("promise 8, sign: UNKNOWN, no NONE", UNKNOWN, x -> x.sign(-1, 9999));
        first("promise 9, told: UNKNOWN, OUTSIDE (k)", UNKNOWN, x -> x.told(6, -1, 0));
        first("promise 9, told: UNKNOWN, OUTSIDE (what)", UNKNOWN, x -> x.told(-1, 0, 3));
        first("promise 9, told: STATE, OUTSIDE (k)", STATE, x -> x.told(EMPTY, -1, 0));
        first("promise 9, told: STATE, OUTSIDE (what)", STATE, x -> x.told(EMPTY, 0, 3));
        first("promise 9, told: OUTSIDE (k), what is told", OUTSIDE, x -> x.told(0, 4, 2));
        first("promise 9, told: OUTSIDE (what) ahead of NONE", OUTSIDE, x -> x.told(3, 0, 3));
        first("promise 9, told: OUTSIDE (what) ahead of NONE", OUTSIDE, x -> x.told(3, 0, -1));
    }

    private static void orderInWhatFollows() {
        first("promise 13, follows: UNKNOWN (a), STATE", UNKNOWN, x -> x.follows(6, EMPTY));
        first("promise 13, follows: UNKNOWN (b), STATE", UNKNOWN, x -> x.follows(EMPTY, -1));
        first("promise 13, follows: STATE (a), FULL", STATE, x -> x.follows(EMPTY, ELEVEN_PARTS));
        first("promise 13, follows: STATE (b), FULL", STATE, x -> x.follows(ELEVEN_PARTS, EMPTY));
        first("promise 14, from: UNKNOWN, OUTSIDE (k)", UNKNOWN, x -> x.from(6, 0, -1));
        first("promise 14, from: UNKNOWN, OUTSIDE (set)", UNKNOWN, x -> x.from(-1, -1, 0));
        first("promise 14, from: STATE, OUTSIDE (k)", STATE, x -> x.from(EMPTY, 0, 11));
        first("promise 14, from: STATE, OUTSIDE (set)", STATE, x -> x.from(EMPTY, 1, 0));
        first("promise 14, from: STATE, OUTSIDE (set)", STATE, x -> x.from(EMPTY, -1, 0));
    }

    private static void orderInWorlds() {
        first("promise 15, worlds: UNKNOWN, OUTSIDE", UNKNOWN, x -> x.worlds(6, 6));
        first("promise 15, worlds: UNKNOWN, OUTSIDE", UNKNOWN, x -> x.worlds(-1, -1));
        first("promise 15, worlds: OUTSIDE, STATE", OUTSIDE, x -> x.worlds(EMPTY, 6));
        first("promise 15, worlds: OUTSIDE, STATE", OUTSIDE, x -> x.worlds(EMPTY, -1));
        first("promise 15, worlds: STATE, no NONE", STATE, x -> x.worlds(EMPTY, 2));
        first("promise 16, world: UNKNOWN, OUTSIDE", UNKNOWN, x -> x.world(6, 0, 3));
        first("promise 16, world: UNKNOWN, no NONE", UNKNOWN, x -> x.world(-1, -1, 0));
        first("promise 16, world: OUTSIDE, STATE", OUTSIDE, x -> x.world(EMPTY, 0, 3));
        first("promise 16, world: OUTSIDE, no NONE", OUTSIDE, x -> x.world(0, -1, -1));
        first("promise 16, world: STATE, no NONE", STATE, x -> x.world(EMPTY, -1, 0));
    }

    private static void textsStay() {
        refused("promise 2, say: OUTSIDE", OUTSIDE, x -> x.say(32));
        refused("promise 2, say: OUTSIDE", OUTSIDE, x -> x.say(127));
        refused("promise 2, say: FULL", FULL, LONGEST, x -> x.say('p'));
        refused("promise 4, read: UNKNOWN", UNKNOWN, x -> x.read(6));
        refused("promise 4, read: UNKNOWN", UNKNOWN, LARGE, x -> x.read(-1));
        refused("promise 4, read: UNKNOWN, of a sentence", UNKNOWN, "p", x -> x.read(6));
        refused("promise 4, read: FULL", FULL, LARGE, x -> x.read(1));
        refused("promise 4, read: FULL, into an empty slot", FULL, LARGE, x -> x.read(EMPTY));
    }

    private static void slotsStay() {
        for (int slot : new int[] {-1, 6}) {
            refused("promise 6, make: UNKNOWN (to)", UNKNOWN, x -> x.make(slot, 0, 1, 0));
            refused("promise 6, make: UNKNOWN (a)", UNKNOWN, x -> x.make(0, slot, 1, 0));
            refused("promise 6, make: UNKNOWN (b)", UNKNOWN, x -> x.make(0, 1, slot, 0));
            refused("promise 7, part: UNKNOWN (to)", UNKNOWN, x -> x.part(slot, 0, 0));
            refused("promise 7, part: UNKNOWN (from)", UNKNOWN, x -> x.part(0, slot, 0));
            refused("promise 10, drop: UNKNOWN", UNKNOWN, x -> x.drop(slot));
        }
        refused("promise 6, make: OUTSIDE", OUTSIDE, x -> x.make(EMPTY, 0, 1, 3));
        refused("promise 6, make: OUTSIDE", OUTSIDE, x -> x.make(0, 0, 1, -1));
        refused("promise 6, make: STATE (a)", STATE, x -> x.make(0, EMPTY, 1, 0));
        refused("promise 6, make: STATE (b)", STATE, x -> x.make(0, 1, EMPTY, 0));
        refused("promise 6, make: FULL", FULL, x -> x.make(0, ELEVEN_PARTS, 1, 0));
        refused("promise 6, make: FULL, onto a and b", FULL, x -> x.make(ELEVEN_PARTS, ELEVEN_PARTS, ELEVEN_PARTS, 2));
        refused("promise 6, make: FULL, into an empty slot", FULL, x -> x.make(EMPTY, 1, ELEVEN_PARTS, 1));
        refused("promise 7, part: STATE", STATE, x -> x.part(0, EMPTY, 0));
        refused("promise 7, part: OUTSIDE", OUTSIDE, x -> x.part(0, 1, 1));
        refused("promise 7, part: OUTSIDE, onto the same", OUTSIDE, x -> x.part(0, 0, -1));
        refused("promise 7, part: OUTSIDE, into an empty slot", OUTSIDE, x -> x.part(EMPTY, ELEVEN_PARTS, 11));
        refused("promise 10, drop of an empty slot", 0, x -> x.drop(EMPTY));
    }

    private static void imagesStay() {
        refused("promise 17, image: OUTSIDE", OUTSIDE, x -> x.image(-1));
        refused("promise 17, image: OUTSIDE", OUTSIDE, x -> x.image(2));
        refused("promise 17, image: OUTSIDE", OUTSIDE, x -> x.image(32));
        refused("promise 18, restore: OUTSIDE", OUTSIDE, x -> x.restore(-1));
        refused("promise 18, restore: OUTSIDE", OUTSIDE, x -> x.restore(2));
        refused("promise 18, restore: OUTSIDE", OUTSIDE, x -> x.restore(32));
        refused("promise 18, restore: STATE", STATE, x -> x.restore(1));
    }

    /** Refused or answered, a question leaves all as it is. */
    private static void questionsChangeNothing() {
        unchanged("promise 5, fault", x -> x.fault());
        unchanged("promise 8, sign", x -> forSlots(s -> forNumbers(k -> x.sign(s, k))));
        unchanged("promise 9, told", x -> forSlots(s -> forNumbers(k -> x.told(s, k, k))));
        unchanged("promise 11, plain", x -> forSlots(s -> x.plain(s)));
        unchanged("promise 12, rows", x -> forSlots(s -> x.rows(s)));
        unchanged("promise 13, follows", x -> forSlots(s -> forNumbers(k -> x.follows(s, k))));
        unchanged("promise 14, from", x -> forSlots(s -> forNumbers(k -> x.from(s, k, 0))));
        unchanged("promise 15, worlds", x -> forSlots(s -> forNumbers(k -> x.worlds(s, k))));
        unchanged("promise 16, world", x -> forSlots(s -> forNumbers(k -> x.world(s, k, 1))));
        unchanged("promise 19, count", x -> forNumbers(k -> x.count(k)));
    }

    private static void unchanged(String call, Consumer<StrictSentences> asked) {
        StrictSentences x = used(NOT_WHOLE);
        asked.accept(x);
        Check.due(call + " leaves the fault", x.fault(), FAULT_AT);
        Check.due(call + " changes nothing", seen(x), seen(used(NOT_WHOLE)));
    }

    private static void forSlots(IntConsumer asked) {
        for (int slot = -1; slot <= 6; slot++) {
            asked.accept(slot);
        }
    }

    private static void forNumbers(IntConsumer asked) {
        for (int k : new int[] {Check.LEAST, -2, -1, 0, 1, 2, 3, 4, 5, 6, 10, 11, Check.GREATEST}) {
            asked.accept(k);
        }
    }

    private static void theFaultsPlaceIsNew() {
        StrictSentences x = used(NOT_WHOLE);
        Check.due("the fault before", x.fault(), FAULT_AT);
        Check.due("read", x.read(0), FAULT);
        Check.due("the fault", x.fault(), NOT_WHOLE.length());
        Check.due("all else is as it was", seen(x), seen(used(NOT_WHOLE)));
        StrictSentences y = used("pq");
        Check.due("read into an empty slot", y.read(EMPTY), FAULT);
        Check.due("the fault", y.fault(), 1);
        Check.due("it is empty", y.count(10 + EMPTY), 0);
        Check.due("the signs are there", y.wipe(), 2);
    }
}
