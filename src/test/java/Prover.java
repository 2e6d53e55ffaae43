import java.util.HashMap;
import java.util.LinkedHashSet;
import java.util.Map;
import java.util.Set;

/**
 * Tells what follows by a search for proofs (Dyckhoff's calculus without contraction, which
 * ends), not by worlds as the program does, so that each is a check on the other.
 */
final class Prover {
    /** A sentence; like ones are one object. */
    static final class Formula {
        final char kind;
        final Formula a;
        final Formula b;
        final String written;

        private Formula(char kind, Formula a, Formula b, String written) {
            this.kind = kind;
            this.a = a;
            this.b = b;
            this.written = written;
        }

        boolean isPair() {
            return a != null;
        }
    }

    private final Map<String, Formula> known = new HashMap<>();

    Formula leaf(char sign) {
        return known.computeIfAbsent(String.valueOf(sign), w -> new Formula(sign, null, null, w));
    }

    Formula pair(Formula a, char kind, Formula b) {
        return known.computeIfAbsent("(" + a.written + kind + b.written + ")", w -> new Formula(kind, a, b, w));
    }

    boolean follows(Set<Formula> given, Formula goal) {
        if (given.contains(leaf('F')) || given.contains(goal)) {
            return true;
        }
        for (Formula f : given) {
            if (f.kind == '&') {
                return follows(swap(given, f, f.a, f.b), goal);
            }
            if (f.kind == '|') {
                return follows(swap(given, f, f.a), goal) && follows(swap(given, f, f.b), goal);
            }
            if (f.kind == '>' && f.a.kind != '>') {
                Set<Formula> simpler = simpler(given, f);
                if (simpler != null) {
                    return follows(simpler, goal);
                }
            }
        }
        return followsFromSimple(given, goal);
    }

    private Set<Formula> simpler(Set<Formula> given, Formula f) {
        switch (f.a.kind) {
            case 'F':
                return swap(given, f);
            case '&':
                return swap(given, f, pair(f.a.a, '>', pair(f.a.b, '>', f.b)));
            case '|':
                return swap(given, f, pair(f.a.a, '>', f.b), pair(f.a.b, '>', f.b));
            default:
                return given.contains(f.a) ? swap(given, f, f.b) : null;
        }
    }

    private boolean followsFromSimple(Set<Formula> given, Formula goal) {
        if (goal.kind == '&') {
            return follows(given, goal.a) && follows(given, goal.b);
        }
        if (goal.kind == '>') {
            return follows(swap(given, null, goal.a), goal.b);
        }
        if (goal.kind == '|' && (follows(given, goal.a) || follows(given, goal.b))) {
            return true;
        }
        for (Formula f : given) {
            if (f.kind == '>' && f.a.kind == '>'
                    && follows(swap(given, f, pair(f.a.b, '>', f.b), f.a.a), f.a.b)
                    && follows(swap(given, f, f.b), goal)) {
                return true;
            }
        }
        return false;
    }

    private static Set<Formula> swap(Set<Formula> given, Formula out, Formula... in) {
        Set<Formula> changed = new LinkedHashSet<>(given);
        changed.remove(out);
        for (Formula f : in) {
            changed.add(f);
        }
        return changed;
    }
}
