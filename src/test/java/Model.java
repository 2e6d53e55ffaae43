import java.util.ArrayList;
import java.util.Arrays;
import java.util.HashMap;
import java.util.HashSet;
import java.util.LinkedHashSet;
import java.util.List;
import java.util.Map;
import java.util.Set;

/** The document, word by word and without a thought for time: what each call should answer. */
final class Model {
    private static final int UNKNOWN = -1, OUTSIDE = -2, STATE = -3, FULL = -4, NONE = -6, FAULT = -7;

    /** Kept over all runs, since the definition of worlds asks 2048 times what follows. */
    private static final Prover PROVER = new Prover();
    private static final Map<String, List<Integer>> WORLDS = new HashMap<>();

    private static final class Fault extends RuntimeException {
        private static final long serialVersionUID = 1L;
        final int place;

        Fault(int place) {
            this.place = place;
        }
    }

    private Prover.Formula[] slots = new Prover.Formula[6];
    private final Prover.Formula[][] images = new Prover.Formula[2][];
    private final StringBuilder text = new StringBuilder();
    private int fault = NONE;
    private int at;

    int say(int sign) {
        if (sign < 33 || sign > 126) {
            return OUTSIDE;
        }
        if (text.length() == 40) {
            return FULL;
        }
        return text.append((char) sign).length();
    }

    int wipe() {
        int had = text.length();
        text.setLength(0);
        return had;
    }

    int read(int to) {
        if (noSlot(to)) {
            return UNKNOWN;
        }
        Prover.Formula whole;
        try {
            at = 0;
            whole = parse();
            if (at < text.length()) {
                throw new Fault(at);
            }
        } catch (Fault f) {
            fault = f.place;
            return FAULT;
        }
        if (parts(whole).size() > 11) {
            return FULL;
        }
        text.setLength(0);
        return put(to, whole);
    }

    private Prover.Formula parse() {
        char sign = next("pqrsF(-");
        if (sign == '-') {
            return PROVER.pair(parse(), '>', PROVER.leaf('F'));
        }
        if (sign != '(') {
            return PROVER.leaf(sign);
        }
        Prover.Formula a = parse();
        char kind = next("&|>");
        Prover.Formula b = parse();
        next(")");
        return PROVER.pair(a, kind, b);
    }

    private char next(String allowed) {
        if (at >= text.length() || allowed.indexOf(text.charAt(at)) < 0) {
            throw new Fault(at);
        }
        return text.charAt(at++);
    }

    private int put(int to, Prover.Formula whole) {
        slots[to] = whole;
        return parts(whole).size();
    }

    static List<Prover.Formula> parts(Prover.Formula whole) {
        Set<Prover.Formula> found = new LinkedHashSet<>();
        collect(whole, found);
        return new ArrayList<>(found);
    }

    private static void collect(Prover.Formula f, Set<Prover.Formula> found) {
        if (!found.contains(f)) {
            if (f.isPair()) {
                collect(f.a, found);
                collect(f.b, found);
            }
            found.add(f);
        }
    }

    int fault() {
        return fault;
    }

    int make(int to, int a, int b, int way) {
        if (noSlot(to) || noSlot(a) || noSlot(b)) {
            return UNKNOWN;
        }
        if (way < 0 || way > 2) {
            return OUTSIDE;
        }
        if (slots[a] == null || slots[b] == null) {
            return STATE;
        }
        Prover.Formula whole = PROVER.pair(slots[a], "&|>".charAt(way), slots[b]);
        return parts(whole).size() > 11 ? FULL : put(to, whole);
    }

    int part(int to, int from, int k) {
        if (noSlot(to) || noSlot(from)) {
            return UNKNOWN;
        }
        if (slots[from] == null) {
            return STATE;
        }
        List<Prover.Formula> parts = parts(slots[from]);
        return k < 0 || k >= parts.size() ? OUTSIDE : put(to, parts.get(k));
    }

    int sign(int slot, int k) {
        if (noSlot(slot)) {
            return UNKNOWN;
        }
        if (k < -1) {
            return OUTSIDE;
        }
        if (slots[slot] == null) {
            return STATE;
        }
        String written = slots[slot].written;
        return k == -1 ? written.length() : k < written.length() ? written.charAt(k) : NONE;
    }

    int told(int slot, int k, int what) {
        if (noSlot(slot)) {
            return UNKNOWN;
        }
        if (slots[slot] == null) {
            return STATE;
        }
        List<Prover.Formula> parts = parts(slots[slot]);
        if (k < 0 || k >= parts.size() || what < 0 || what > 2) {
            return OUTSIDE;
        }
        Prover.Formula f = parts.get(k);
        if (f.isPair()) {
            return what == 0 ? 2 + "&|>".indexOf(f.kind) : parts.indexOf(what == 1 ? f.a : f.b);
        }
        if (f.kind == 'F') {
            return what == 0 ? 1 : NONE;
        }
        return what == 0 ? 0 : what == 1 ? f.kind - 'p' : NONE;
    }

    int drop(int slot) {
        if (noSlot(slot)) {
            return UNKNOWN;
        }
        int was = slots[slot] == null ? 0 : 1;
        slots[slot] = null;
        return was;
    }

    int plain(int slot) {
        return noSlot(slot) ? UNKNOWN : slots[slot] == null ? STATE : isPlain(slots[slot]) ? 1 : 0;
    }

    private static boolean isPlain(Prover.Formula f) {
        return PROVER.follows(Set.of(), f);
    }

    int rows(int slot) {
        return noSlot(slot) ? UNKNOWN : slots[slot] == null ? STATE : isByRows(slots[slot]) ? 1 : 0;
    }

    private static boolean isByRows(Prover.Formula f) {
        for (int row = 0; row < 16; row++) {
            if (!isTrue(f, row)) {
                return false;
            }
        }
        return true;
    }

    private static boolean isTrue(Prover.Formula f, int row) {
        switch (f.kind) {
            case 'F':
                return false;
            case '&':
                return isTrue(f.a, row) && isTrue(f.b, row);
            case '|':
                return isTrue(f.a, row) || isTrue(f.b, row);
            case '>':
                return !isTrue(f.a, row) || isTrue(f.b, row);
            default:
                return (row >> (f.kind - 'p') & 1) != 0;
        }
    }

    int follows(int a, int b) {
        if (noSlot(a) || noSlot(b)) {
            return UNKNOWN;
        }
        if (slots[a] == null || slots[b] == null) {
            return STATE;
        }
        if (parts(PROVER.pair(slots[a], '>', slots[b])).size() > 11) {
            return FULL;
        }
        return PROVER.follows(Set.of(slots[a]), slots[b]) ? 1 : 0;
    }

    int from(int slot, int set, int k) {
        if (noSlot(slot)) {
            return UNKNOWN;
        }
        if (slots[slot] == null) {
            return STATE;
        }
        List<Prover.Formula> parts = parts(slots[slot]);
        if (k < 0 || k >= parts.size() || set < 0 || set >= 1 << parts.size()) {
            return OUTSIDE;
        }
        return PROVER.follows(chosen(parts, set), parts.get(k)) ? 1 : 0;
    }

    private static Set<Prover.Formula> chosen(List<Prover.Formula> parts, int set) {
        Set<Prover.Formula> in = new LinkedHashSet<>();
        for (int k = 0; k < parts.size(); k++) {
            if ((set >> k & 1) != 0) {
                in.add(parts.get(k));
            }
        }
        return in;
    }

    static List<Integer> worldsOf(Prover.Formula f) {
        return WORLDS.computeIfAbsent(f.written, w -> findWorlds(parts(f)));
    }

    private static List<Integer> findWorlds(List<Prover.Formula> parts) {
        List<Integer> found = new ArrayList<>();
        int all = (1 << parts.size()) - 1;
        for (int set = 0; set <= all; set++) {
            Prover.Formula others = null;
            for (Prover.Formula f : chosen(parts, all & ~set)) {
                others = others == null ? f : PROVER.pair(others, '|', f);
            }
            if (!PROVER.follows(chosen(parts, set), others == null ? PROVER.leaf('F') : others)) {
                found.add(set);
            }
        }
        return found;
    }

    private static boolean isAbove(int high, int low) {
        return high != low && (high & low) == low;
    }

    private static int height(List<Integer> worlds, int world) {
        int height = 0;
        for (int other : worlds) {
            if (isAbove(other, world)) {
                height = Math.max(height, 1 + height(worlds, other));
            }
        }
        return height;
    }

    int worlds(int slot, int what) {
        if (noSlot(slot)) {
            return UNKNOWN;
        }
        if (what < 0 || what > 5) {
            return OUTSIDE;
        }
        if (slots[slot] == null) {
            return STATE;
        }
        List<Integer> worlds = worldsOf(slots[slot]);
        int root = parts(slots[slot]).size() - 1;
        switch (what) {
            case 0:
                return worlds.size();
            case 1:
                return (int) worlds.stream().filter(w -> (w >> root & 1) == 0).count();
            case 2:
                return worlds.stream().filter(w -> (w >> root & 1) == 0).min(Integer::compare).orElse(NONE);
            case 3:
                return (int) worlds.stream().filter(w -> worlds.stream().noneMatch(v -> isAbove(v, w))).count();
            case 4:
                return worlds.stream().mapToInt(w -> height(worlds, w)).max().orElse(0);
            default:
                return (int) worlds.stream().filter(w -> worlds.stream().noneMatch(v -> isAbove(w, v))).count();
        }
    }

    int world(int slot, int i, int what) {
        if (noSlot(slot)) {
            return UNKNOWN;
        }
        if (what < 0 || what > 2) {
            return OUTSIDE;
        }
        if (slots[slot] == null) {
            return STATE;
        }
        List<Integer> worlds = worldsOf(slots[slot]);
        if (i < 0 || i >= worlds.size()) {
            return NONE;
        }
        int world = worlds.get(i);
        return what == 0 ? world
                : what == 1 ? (int) worlds.stream().filter(v -> isAbove(v, world)).count()
                : height(worlds, world);
    }

    int image(int k) {
        if (k != 0 && k != 1) {
            return OUTSIDE;
        }
        images[k] = slots.clone();
        return 1;
    }

    int restore(int k) {
        if (k != 0 && k != 1) {
            return OUTSIDE;
        }
        if (images[k] == null) {
            return STATE;
        }
        slots = images[k].clone();
        return 1;
    }

    int count(int what) {
        List<Prover.Formula> held = new ArrayList<>(Arrays.asList(slots));
        held.removeIf(f -> f == null);
        switch (what) {
            case 0:
                return held.size();
            case 1:
                return (int) held.stream().filter(Model::isPlain).count();
            case 2:
                return (int) held.stream().filter(f -> isByRows(f) && !isPlain(f)).count();
            case 3:
                return new HashSet<>(held).size();
            case 4:
                return text.length();
            case 5:
                return (images[0] == null ? 0 : 1) + (images[1] == null ? 0 : 2);
            default:
                if (what < 10 || what > 15) {
                    return OUTSIDE;
                }
                return slots[what - 10] == null ? 0 : parts(slots[what - 10]).size();
        }
    }

    private static boolean noSlot(int slot) {
        return slot < 0 || slot > 5;
    }
}
