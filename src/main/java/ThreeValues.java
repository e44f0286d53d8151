import java.util.Arrays;

/**
 * Keeps what is known of stores as structures of three truth values, evaluates formulas over them,
 * sharpens and blurs them, and carries sets of them along the edges of a program until nothing is new.
 *
 * Everything that a call needs is made in the constructor and used again, so that no later call makes
 * an object.
 */
public final class ThreeValues {
    public static final int BAD = -1;
    public static final int FULL = -2;
    public static final int UNKNOWN = -3;

    private static final int HALF = 2;
    private static final int VALUES = 3;

    private static final int FIRST_OF_ONE_PLACE = 2;
    private static final int FIRST_OF_TWO_PLACES = 6;
    private static final int SAME = 8;
    private static final int CREATED = 5;

    private static final int SLOTS = 4;
    private static final int POINTS = 4;
    private static final int VARIABLES = 6;
    private static final int MOST_INDIVIDUALS = 6;
    private static final int MOST_FORMULAS = 40;
    private static final int MOST_RULES = 6;
    private static final int MOST_EDGES = 8;
    private static final int MOST_CHANGES = 4;
    private static final int MOST_FOCUSED = 40;
    private static final int MOST_RECORDED = 12;
    private static final int DEEPEST = 4;

    private static final int CONSTANT = 0;
    private static final int HOLDS = 1;
    private static final int EQUAL = 2;
    private static final int NOT = 3;
    private static final int AND = 4;
    private static final int OR = 5;
    private static final int EXISTS = 6;
    private static final int FORALL = 7;
    private static final int CLOSURE = 8;

    private static final int CLOSURE_FROM = 4;
    private static final int CLOSURE_TO = 5;
    private static final int NO_VARIABLES = 0;
    private static final int VARIABLE_0 = 1;
    private static final int VARIABLES_0_AND_1 = 3;
    private static final int CLOSURE_VARIABLES = 48;

    private static final int NO_FOCUS = 15;

    private final Structure[] slots = new Structure[SLOTS];
    private final Formulas formulas = new Formulas();
    private final Evaluator evaluator = new Evaluator(formulas.all);
    private final Rules rules = new Rules(evaluator, formulas.all);
    private final Edge[] edges = new Edge[MOST_EDGES];
    private final Mover mover = new Mover(evaluator, rules);
    private final Merger merger = new Merger();
    private final Embedding embedding = new Embedding();
    private final Bag[] started = new Bag[POINTS];
    private final Bag[] recorded = new Bag[POINTS];
    private final int[] handled = new int[POINTS];
    private final Structure spare = new Structure();
    private Bag pile = new Bag(MOST_FOCUSED);
    private int edgeCount = 0;

    public ThreeValues() {
        for (int s = 0; s < SLOTS; s++) {
            slots[s] = new Structure();
        }
        for (int e = 0; e < MOST_EDGES; e++) {
            edges[e] = new Edge();
        }
        for (int point = 0; point < POINTS; point++) {
            started[point] = new Bag(MOST_RECORDED);
            recorded[point] = new Bag(MOST_RECORDED);
        }
    }

    public boolean universe(int s, int n) {
        if (!within(s, SLOTS) || !within(n, MOST_INDIVIDUALS + 1)) {
            return false;
        }
        slots[s].setAnew(n);
        return true;
    }

    public boolean summary(int s, int u, boolean on) {
        if (!within(s, SLOTS) || !within(u, slots[s].individuals)) {
            return false;
        }
        slots[s].setSummary(u, on);
        return true;
    }

    public boolean put(int s, int p, int u, int w, int value) {
        if (!within(p, SAME) || !within(value, VALUES) || !isRow(s, p, u, w)) {
            return false;
        }
        slots[s].set(p, u, w, value);
        return true;
    }

    public int get(int s, int p, int u, int w) {
        if (!within(p, SAME + 1) || !isRow(s, p, u, w)) {
            return BAD;
        }
        return slots[s].at(p, u, w);
    }

    public int size(int s) {
        return within(s, SLOTS) ? slots[s].individuals : BAD;
    }

    public int formula(int kind, int a, int b, int c, int d) {
        if (!formulas.fits(kind, a, b, c, d)) {
            return BAD;
        }
        if (formulas.count == MOST_FORMULAS) {
            return FULL;
        }
        return formulas.make(kind, a, b, c, d);
    }

    public int free(int f) {
        return within(f, formulas.count) ? formulas.all[f].unbound : BAD;
    }

    public int value(int s, int f, int x, int y) {
        if (!within(s, SLOTS) || !formulas.hasOnly(f, VARIABLES_0_AND_1)) {
            return BAD;
        }
        int unbound = formulas.all[f].unbound;
        int n = slots[s].individuals;
        if ((unbound & 1) != 0 && !within(x, n) || (unbound & 2) != 0 && !within(y, n)) {
            return BAD;
        }
        return evaluator.evaluate(slots[s], f, x, y);
    }

    public int blur(int s) {
        if (!within(s, SLOTS)) {
            return BAD;
        }
        merger.merge(slots[s]);
        return slots[s].individuals;
    }

    public boolean embeds(int s, int t) {
        return within(s, SLOTS) && within(t, SLOTS) && embedding.exists(slots[s], slots[t]);
    }

    public int rule(int f, int p, int c) {
        boolean told = p >= FIRST_OF_ONE_PLACE && p <= SAME && (c == 0 || c == 1);
        if (!told || !formulas.hasOnly(f, VARIABLES_0_AND_1)) {
            return BAD;
        }
        return rules.count == MOST_RULES ? FULL : rules.add(f, p, c);
    }

    public boolean coerce(int s) {
        if (!within(s, SLOTS)) {
            return false;
        }
        spare.copyFrom(slots[s]);
        if (!rules.sharpen(spare)) {
            return false;
        }
        slots[s].copyFrom(spare);
        return true;
    }

    public int edge(int from, int to, int what, int precondition) {
        if (!within(from, POINTS) || !within(to, POINTS) || !Edge.isTold(what)) {
            return BAD;
        }
        if (!formulas.hasOnly(precondition, NO_VARIABLES)) {
            return BAD;
        }
        if (edgeCount == MOST_EDGES) {
            return FULL;
        }
        edges[edgeCount].set(from, to, what, precondition);
        edgeCount++;
        return edgeCount - 1;
    }

    public int change(int e, int p, int f) {
        if (!within(e, edgeCount) || !within(p, SAME) || !formulas.hasOnly(f, placesOf(p))) {
            return BAD;
        }
        return edges[e].changes == MOST_CHANGES ? FULL : edges[e].addChange(p, f);
    }

    public int apply(int e, int s) {
        if (!within(e, edgeCount) || !within(s, SLOTS)) {
            return BAD;
        }
        if (!mover.move(edges[e], slots[s])) {
            return UNKNOWN;
        }
        Bag outcome = mover.work;
        mover.work = pile;
        pile = outcome;
        pile.sort();
        return pile.count;
    }

    public boolean pile(int i, int s) {
        return copyToSlot(pile, i, s);
    }

    public int start(int point, int s) {
        if (!within(point, POINTS) || !within(s, SLOTS)) {
            return BAD;
        }
        spare.copyFrom(slots[s]);
        merger.merge(spare);
        if (!started[point].include(spare)) {
            return FULL;
        }
        started[point].sort();
        recordStarted();
        return started[point].count;
    }

    public int run() {
        recordStarted();
        Arrays.fill(handled, 0);
        // No point has more than MOST_RECORDED, so by then nothing waits or the run is unknown.
        for (int step = 0; step <= POINTS * MOST_RECORDED; step++) {
            int point = waitingPoint();
            if (point < 0) {
                return sortRecorded();
            }
            if (!spreadNext(point)) {
                break;
            }
        }
        recordStarted();
        return UNKNOWN;
    }

    public int recorded(int point) {
        return within(point, POINTS) ? recorded[point].count : BAD;
    }

    public boolean show(int point, int i, int s) {
        return within(point, POINTS) && copyToSlot(recorded[point], i, s);
    }

    public int known(int point, int f) {
        if (!within(point, POINTS) || !formulas.hasOnly(f, NO_VARIABLES)) {
            return BAD;
        }
        Bag bag = recorded[point];
        if (bag.count == 0) {
            return BAD;
        }
        int joined = evaluator.evaluate(bag.all[0], f, 0, 0);
        for (int i = 1; i < bag.count && joined != HALF; i++) {
            joined = join(joined, evaluator.evaluate(bag.all[i], f, 0, 0));
        }
        return joined;
    }

    private static boolean within(int number, int limit) {
        return number >= 0 && number < limit;
    }

    private static int join(int x, int y) {
        return x == y ? x : HALF;
    }

    /** The variables, as bits, that stand for the places of a predicate. */
    private static int placesOf(int p) {
        if (p < FIRST_OF_ONE_PLACE) {
            return NO_VARIABLES;
        }
        return p < FIRST_OF_TWO_PLACES ? VARIABLE_0 : VARIABLES_0_AND_1;
    }

    private boolean isRow(int s, int p, int u, int w) {
        if (!within(s, SLOTS)) {
            return false;
        }
        int n = slots[s].individuals;
        return (p < FIRST_OF_ONE_PLACE || within(u, n)) && (p < FIRST_OF_TWO_PLACES || within(w, n));
    }

    private boolean copyToSlot(Bag bag, int i, int s) {
        if (!within(i, bag.count) || !within(s, SLOTS)) {
            return false;
        }
        slots[s].copyFrom(bag.all[i]);
        return true;
    }

    private void recordStarted() {
        for (int point = 0; point < POINTS; point++) {
            recorded[point].copyFrom(started[point]);
        }
    }

    /** A point with a structure that has not gone along its edges yet, or -1. */
    private int waitingPoint() {
        for (int point = 0; point < POINTS; point++) {
            if (handled[point] < recorded[point].count) {
                return point;
            }
        }
        return -1;
    }

    /** Carries the next structure of a point along its edges; false when the run is unknown by that. */
    private boolean spreadNext(int point) {
        Structure next = recorded[point].all[handled[point]];
        handled[point]++;
        for (int e = 0; e < edgeCount; e++) {
            Edge edge = edges[e];
            if (edge.from == point && !(mover.move(edge, next) && recordOutcome(recorded[edge.to]))) {
                return false;
            }
        }
        return true;
    }

    private boolean recordOutcome(Bag bag) {
        Bag outcome = mover.work;
        for (int i = 0; i < outcome.count; i++) {
            merger.merge(outcome.all[i]);
            if (!bag.include(outcome.all[i])) {
                return false;
            }
        }
        return true;
    }

    /** How many structures are recorded in all; they stood in the order of their coming till now. */
    private int sortRecorded() {
        int total = 0;
        for (int point = 0; point < POINTS; point++) {
            recorded[point].sort();
            total += recorded[point].count;
        }
        return total;
    }

    /**
     * The row has the values in the very order in which structures are compared, with room for six
     * individuals: 0, 1; for each individual its summary mark, 2 .. 5; for each pair 6, 7. The cells of
     * individuals that are not there are always 0, so a new last individual finds them empty.
     */
    private static final class Structure {
        static final int MARKS = 2;
        static final int MARKS_OF_ONE = 5;
        static final int PAIRS = MARKS + MARKS_OF_ONE * MOST_INDIVIDUALS;
        static final int PAIRS_OF_ONE = 2 * MOST_INDIVIDUALS;
        static final int CELLS = PAIRS + PAIRS_OF_ONE * MOST_INDIVIDUALS;

        int individuals = 0;
        final int[] row = new int[CELLS];

        static int cellOf(int p, int u, int w) {
            if (p < FIRST_OF_ONE_PLACE) {
                return p;
            }
            if (p < FIRST_OF_TWO_PLACES) {
                return MARKS + MARKS_OF_ONE * u + p - 1;
            }
            return PAIRS + PAIRS_OF_ONE * u + 2 * w + p - FIRST_OF_TWO_PLACES;
        }

        int at(int p, int u, int w) {
            return p == SAME ? sameness(u, w) : row[cellOf(p, u, w)];
        }

        void set(int p, int u, int w, int value) {
            row[cellOf(p, u, w)] = value;
        }

        int sameness(int u, int w) {
            if (u != w) {
                return 0;
            }
            return row[MARKS + MARKS_OF_ONE * u] == 1 ? HALF : 1;
        }

        boolean isSummary(int u) {
            return row[MARKS + MARKS_OF_ONE * u] == 1;
        }

        void setSummary(int u, boolean on) {
            row[MARKS + MARKS_OF_ONE * u] = on ? 1 : 0;
        }

        void setAnew(int n) {
            Arrays.fill(row, MARKS, CELLS, 0);
            individuals = n;
        }

        void copyFrom(Structure other) {
            System.arraycopy(other.row, 0, row, 0, CELLS);
            individuals = other.individuals;
        }

        /** Less than 0, 0 or more than 0, as this one is before, like or after the other. */
        int compareWith(Structure other) {
            if (individuals != other.individuals) {
                return individuals - other.individuals;
            }
            int end = PAIRS + PAIRS_OF_ONE * individuals;
            for (int i = 0; i < end; i++) {
                if (row[i] != other.row[i]) {
                    return row[i] - other.row[i];
                }
            }
            return 0;
        }

        /** A last individual with all that u has; the caller has seen that there is room. */
        void addLike(int u) {
            int last = individuals;
            individuals++;
            System.arraycopy(row, MARKS + MARKS_OF_ONE * u, row, MARKS + MARKS_OF_ONE * last, MARKS_OF_ONE);
            for (int p = FIRST_OF_TWO_PLACES; p < SAME; p++) {
                for (int x = 0; x < last; x++) {
                    set(p, last, x, at(p, u, x));
                    set(p, x, last, at(p, x, u));
                }
                set(p, last, last, at(p, u, u));
            }
        }

        /** A last individual that is the created one; the caller has seen that there is room. */
        void addCreated() {
            for (int u = 0; u < individuals; u++) {
                set(CREATED, u, 0, 0);
            }
            set(CREATED, individuals, 0, 1);
            individuals++;
        }
    }

    /** Structures with a number, as many as it was made for at most. */
    private static final class Bag {
        final Structure[] all;
        int count = 0;

        Bag(int most) {
            all = new Structure[most];
            for (int i = 0; i < most; i++) {
                all[i] = new Structure();
            }
        }

        boolean hasRoom(int more) {
            return count + more <= all.length;
        }

        /** The caller has seen that there is room. */
        Structure addCopy(Structure s) {
            Structure added = all[count];
            added.copyFrom(s);
            count++;
            return added;
        }

        /** Whether s is in it afterwards: not if it is new and there is no room. */
        boolean include(Structure s) {
            for (int i = 0; i < count; i++) {
                if (all[i].compareWith(s) == 0) {
                    return true;
                }
            }
            if (!hasRoom(1)) {
                return false;
            }
            addCopy(s);
            return true;
        }

        void swap(int i, int j) {
            Structure kept = all[i];
            all[i] = all[j];
            all[j] = kept;
        }

        void sort() {
            for (int i = 1; i < count; i++) {
                for (int j = i; j > 0 && all[j].compareWith(all[j - 1]) < 0; j--) {
                    swap(j, j - 1);
                }
            }
        }

        /** Of a bag that was made for as many. */
        void copyFrom(Bag other) {
            for (int i = 0; i < other.count; i++) {
                all[i].copyFrom(other.all[i]);
            }
            count = other.count;
        }
    }

    /** Its parts c and d are numbers of formulas that were made before it. */
    private static final class Formula {
        int kind = CONSTANT;
        int a = 0;
        int b = 0;
        int c = 0;
        int d = 0;
        int depth = 0;
        int unbound = 0;
        boolean hasClosure = false;
    }

    /** The formulas in the order of making. */
    private static final class Formulas {
        final Formula[] all = new Formula[MOST_FORMULAS];
        int count = 0;

        Formulas() {
            for (int f = 0; f < MOST_FORMULAS; f++) {
                all[f] = new Formula();
            }
        }

        /** Whether there is such a formula, and only those variables (as bits) are free in it. */
        boolean hasOnly(int f, int variables) {
            return within(f, count) && (all[f].unbound & ~variables) == 0;
        }

        boolean fits(int kind, int a, int b, int c, int d) {
            switch (kind) {
                case CONSTANT:
                    return within(a, VALUES);
                case HOLDS:
                    return within(a, SAME)
                        && (a < FIRST_OF_ONE_PLACE || within(b, VARIABLES))
                        && (a < FIRST_OF_TWO_PLACES || within(c, VARIABLES));
                case EQUAL:
                    return within(b, VARIABLES) && within(c, VARIABLES);
                case NOT:
                    return canBePart(c);
                case AND:
                case OR:
                    return canBePart(c) && canBePart(d);
                case EXISTS:
                case FORALL:
                    return within(a, VARIABLES) && canBePart(c);
                case CLOSURE:
                    return within(a, VARIABLES) && within(b, VARIABLES)
                        && canBePart(c) && !all[c].hasClosure;
                default:
                    return false;
            }
        }

        private boolean canBePart(int f) {
            return within(f, count) && all[f].depth < DEEPEST;
        }

        /** The caller has seen that it fits and that there is room. */
        int make(int kind, int a, int b, int c, int d) {
            Formula made = all[count];
            made.kind = kind;
            made.a = a;
            // The evaluator looks both variables up, also those that a predicate does not need.
            made.b = kind == HOLDS && a < FIRST_OF_ONE_PLACE ? 0 : b;
            made.c = kind == HOLDS && a < FIRST_OF_TWO_PLACES ? 0 : c;
            made.d = d;
            if (kind <= EQUAL) {
                made.unbound = variablesOf(made);
            } else {
                takeFromParts(made);
            }
            count++;
            return count - 1;
        }

        private static int variablesOf(Formula leaf) {
            if (leaf.kind == CONSTANT || leaf.kind == HOLDS && leaf.a < FIRST_OF_ONE_PLACE) {
                return NO_VARIABLES;
            }
            if (leaf.kind == HOLDS && leaf.a < FIRST_OF_TWO_PLACES) {
                return 1 << leaf.b;
            }
            return 1 << leaf.b | 1 << leaf.c;
        }

        /** Depth, free variables and closures. */
        private void takeFromParts(Formula made) {
            Formula part = all[made.c];
            made.depth = part.depth + 1;
            made.unbound = part.unbound;
            made.hasClosure = part.hasClosure;
            if (made.kind == AND || made.kind == OR) {
                Formula other = all[made.d];
                made.depth = Math.max(made.depth, other.depth + 1);
                made.unbound = part.unbound | other.unbound;
                made.hasClosure = part.hasClosure || other.hasClosure;
            } else if (made.kind == EXISTS || made.kind == FORALL) {
                made.unbound = part.unbound & ~(1 << made.a);
            } else if (made.kind == CLOSURE) {
                made.unbound = part.unbound & ~CLOSURE_VARIABLES | 1 << made.a | 1 << made.b;
                made.hasClosure = true;
            }
        }
    }

    /** The recursion is as deep as the formula, and no formula is made deeper than DEEPEST. */
    private static final class Evaluator {
        private final Formula[] formulas;
        private final int[] variables = new int[VARIABLES];
        // One row is enough, as no closure stands within a closure.
        private final int[] reached = new int[MOST_INDIVIDUALS];
        private Structure structure = new Structure();

        Evaluator(Formula[] formulas) {
            this.formulas = formulas;
        }

        /** The caller has seen that x and y are individuals as far as they are free in formula f. */
        int evaluate(Structure s, int f, int x, int y) {
            structure = s;
            variables[0] = x;
            variables[1] = y;
            return valueOf(formulas[f]);
        }

        private int valueOf(Formula f) {
            switch (f.kind) {
                case CONSTANT:
                    return f.a;
                case HOLDS:
                    return structure.row[Structure.cellOf(f.a, variables[f.b], variables[f.c])];
                case EQUAL:
                    return structure.sameness(variables[f.b], variables[f.c]);
                case NOT:
                    return not(valueOf(formulas[f.c]));
                case AND:
                    int first = valueOf(formulas[f.c]);
                    return first == 0 ? 0 : and(first, valueOf(formulas[f.d]));
                case OR:
                    int one = valueOf(formulas[f.c]);
                    return one == 1 ? 1 : or(one, valueOf(formulas[f.d]));
                case EXISTS:
                    return valueForSome(f);
                case FORALL:
                    return valueForAll(f);
                default:
                    return valueOfClosure(f);
            }
        }

        private int valueForSome(Formula f) {
            int kept = variables[f.a];
            int result = 0;
            for (int u = 0; u < structure.individuals && result != 1; u++) {
                variables[f.a] = u;
                result = or(result, valueOf(formulas[f.c]));
            }
            variables[f.a] = kept;
            return result;
        }

        private int valueForAll(Formula f) {
            int kept = variables[f.a];
            int result = 1;
            for (int u = 0; u < structure.individuals && result != 0; u++) {
                variables[f.a] = u;
                result = and(result, valueOf(formulas[f.c]));
            }
            variables[f.a] = kept;
            return result;
        }

        /**
         * The strongest way from a to b: individuals are left in the order of the strength in which they
         * are reached, so each has its last value when it is left.
         */
        private int valueOfClosure(Formula f) {
            int keptFrom = variables[CLOSURE_FROM];
            int keptTo = variables[CLOSURE_TO];
            int x = variables[f.a];
            int target = variables[f.b];
            Arrays.fill(reached, 0);
            int left = 0;
            int strength = 1;
            for (int step = 0; step < structure.individuals && x >= 0; step++) {
                left |= 1 << x;
                leave(x, strength, formulas[f.c]);
                x = reached[target] == 1 ? -1 : strongest(left);
                strength = x < 0 ? 0 : reached[x];
            }
            variables[CLOSURE_FROM] = keptFrom;
            variables[CLOSURE_TO] = keptTo;
            return reached[target];
        }

        private void leave(int x, int strength, Formula step) {
            variables[CLOSURE_FROM] = x;
            for (int w = 0; w < structure.individuals; w++) {
                // A step cannot reach w more strongly than x was reached.
                if (reached[w] != 1 && reached[w] != strength) {
                    variables[CLOSURE_TO] = w;
                    reached[w] = or(reached[w], and(strength, valueOf(step)));
                }
            }
        }

        /** The individual not yet left that is reached most strongly, or -1. */
        private int strongest(int left) {
            int found = -1;
            for (int x = 0; x < structure.individuals; x++) {
                if ((left >> x & 1) == 0 && reached[x] != 0 && (found < 0 || reached[x] == 1)) {
                    found = x;
                }
            }
            return found;
        }

        private static int not(int x) {
            return x == HALF ? HALF : 1 - x;
        }

        private static int and(int x, int y) {
            if (x == 0 || y == 0) {
                return 0;
            }
            return x == 1 ? y : HALF;
        }

        private static int or(int x, int y) {
            if (x == 1 || y == 1) {
                return 1;
            }
            return x == 0 ? y : HALF;
        }
    }

    /** Finds the individuals that are alike and makes them one. */
    private static final class Merger {
        private final Structure old = new Structure();
        private final int[] number = new int[MOST_INDIVIDUALS];
        private final boolean[] leads = new boolean[MOST_INDIVIDUALS];
        private final int[] place = new int[MOST_INDIVIDUALS];

        void merge(Structure s) {
            old.copyFrom(s);
            int n = old.individuals;
            s.setAnew(findPlaces(n));
            for (int u = 0; u < n; u++) {
                mergeMarks(s, u);
                for (int w = 0; w < n; w++) {
                    mergePair(s, u, w);
                }
            }
        }

        /** Where each individual goes; answers how many places there are. */
        private int findPlaces(int n) {
            int places = 0;
            for (int u = 0; u < n; u++) {
                number[u] = old.at(2, u, 0) * 27 + old.at(3, u, 0) * 9 + old.at(4, u, 0) * 3 + old.at(5, u, 0);
                leads[u] = isFirst(u);
                places += leads[u] ? 1 : 0;
            }
            for (int u = 0; u < n; u++) {
                place[u] = 0;
                for (int v = 0; v < n; v++) {
                    place[u] += leads[v] && number[v] < number[u] ? 1 : 0;
                }
            }
            return places;
        }

        private boolean isFirst(int u) {
            for (int v = 0; v < u; v++) {
                if (number[v] == number[u]) {
                    return false;
                }
            }
            return true;
        }

        private void mergeMarks(Structure s, int u) {
            int to = place[u];
            for (int p = FIRST_OF_ONE_PLACE; p < FIRST_OF_TWO_PLACES; p++) {
                s.set(p, to, 0, old.at(p, u, 0));
            }
            if (!leads[u] || old.isSummary(u)) {
                s.setSummary(to, true);
            }
        }

        private void mergePair(Structure s, int u, int w) {
            // Going upwards, the leaders of two places are the first pair that is met for them.
            boolean first = leads[u] && leads[w];
            for (int p = FIRST_OF_TWO_PLACES; p < SAME; p++) {
                int value = old.at(p, u, w);
                s.set(p, place[u], place[w], first ? value : join(s.at(p, place[u], place[w]), value));
            }
        }
    }

    /** Looks for a function that embeds one structure in another; each level places one individual. */
    private static final class Embedding {
        private final int[] image = new int[MOST_INDIVIDUALS];
        private final int[] hits = new int[MOST_INDIVIDUALS];
        private Structure inner = new Structure();
        private Structure outer = new Structure();

        boolean exists(Structure s, Structure t) {
            inner = s;
            outer = t;
            Arrays.fill(hits, 0);
            return isCovered(0, 0, 0, 0, 0) && isCovered(1, 0, 0, 0, 0) && placeFrom(0, t.individuals);
        }

        /** Whether the individuals from u on can be placed, with so many of the outer not yet reached. */
        private boolean placeFrom(int u, int missing) {
            int toPlace = inner.individuals - u;
            if (missing > toPlace) {
                return false;
            }
            if (toPlace <= 0) {
                return true;
            }
            for (int a = 0; a < outer.individuals; a++) {
                image[u] = a;
                if (canPlace(u, a)) {
                    hits[a]++;
                    if (placeFrom(u + 1, hits[a] == 1 ? missing - 1 : missing)) {
                        return true;
                    }
                    hits[a]--;
                }
            }
            return false;
        }

        private boolean canPlace(int u, int a) {
            if ((hits[a] > 0 || inner.isSummary(u)) && !outer.isSummary(a)) {
                return false;
            }
            for (int p = FIRST_OF_ONE_PLACE; p < FIRST_OF_TWO_PLACES; p++) {
                if (!isCovered(p, u, 0, a, 0)) {
                    return false;
                }
            }
            for (int v = 0; v <= u; v++) {
                if (!isPairCovered(u, v) || !isPairCovered(v, u)) {
                    return false;
                }
            }
            return true;
        }

        private boolean isPairCovered(int u, int v) {
            return isCovered(6, u, v, image[u], image[v]) && isCovered(7, u, v, image[u], image[v]);
        }

        private boolean isCovered(int p, int u, int w, int a, int b) {
            int over = outer.at(p, a, b);
            return over == HALF || over == inner.at(p, u, w);
        }
    }

    private static final class Rule {
        int formula = 0;
        int predicate = 0;
        int due = 0;
    }

    /**
     * The order in which rules are used is free: what is 1 stays 1 when a HALF becomes 0 or 1, so a rule
     * that can be used once can be used until it has been.
     */
    private static final class Rules {
        private static final int NOTHING = 0;
        private static final int CHANGED = 1;
        private static final int IMPOSSIBLE = 2;
        // Each turn but the last makes a cell of a structure definite.
        private static final int MOST_TURNS = Structure.CELLS + 1;

        private final Evaluator evaluator;
        private final Formula[] formulas;
        private final Rule[] all = new Rule[MOST_RULES];
        int count = 0;

        Rules(Evaluator evaluator, Formula[] formulas) {
            this.evaluator = evaluator;
            this.formulas = formulas;
            for (int r = 0; r < MOST_RULES; r++) {
                all[r] = new Rule();
            }
        }

        /** The caller has seen that there is room. */
        int add(int f, int p, int c) {
            all[count].formula = f;
            all[count].predicate = p;
            all[count].due = c;
            count++;
            return count;
        }

        /** Coerces s; false when it is impossible. */
        boolean sharpen(Structure s) {
            boolean changed = true;
            for (int turn = 0; turn < MOST_TURNS && changed; turn++) {
                changed = false;
                for (int r = 0; r < count; r++) {
                    int outcome = enforce(all[r], s);
                    if (outcome == IMPOSSIBLE) {
                        return false;
                    }
                    changed = changed || outcome == CHANGED;
                }
            }
            return true;
        }

        private int enforce(Rule rule, Structure s) {
            int n = s.individuals;
            int unbound = formulas[rule.formula].unbound;
            int outcome = NOTHING;
            int holds = 0;
            int seenFor = -1;
            for (int u = 0; u < n; u++) {
                for (int w = 0; w < n; w++) {
                    if (s.at(rule.predicate, u, w) != rule.due) {
                        if (isStale(unbound, seenFor, u)) {
                            holds = evaluator.evaluate(s, rule.formula, u, w);
                            seenFor = u;
                        }
                        if (holds == 1 && !makeDue(rule, s, u, w)) {
                            return IMPOSSIBLE;
                        }
                        outcome = holds == 1 ? CHANGED : outcome;
                    }
                }
            }
            return outcome;
        }

        /**
         * A value that another w, or another u, would not alter is not looked for again. One that a change
         * has made 1 since then is met in the next turn.
         */
        private static boolean isStale(int unbound, int seenFor, int u) {
            return seenFor < 0 || (unbound & 2) != 0 || (unbound & 1) != 0 && seenFor != u;
        }

        private static boolean makeDue(Rule rule, Structure s, int u, int w) {
            if (s.at(rule.predicate, u, w) != HALF) {
                return false;
            }
            if (rule.predicate != SAME) {
                s.set(rule.predicate, u, w, rule.due);
                return true;
            }
            if (rule.due == 0) {
                return false;
            }
            s.setSummary(u, false);
            return true;
        }
    }

    private static final class Edge {
        int from = 0;
        int to = 0;
        int focus = NO_FOCUS;
        int along = 0;
        boolean creates = false;
        int precondition = 0;
        int changes = 0;
        final int[] changed = new int[MOST_CHANGES];
        final int[] changeFormula = new int[MOST_CHANGES];

        static boolean isTold(int what) {
            if (!within(what, 512)) {
                return false;
            }
            int p = what & 15;
            int q = what >> 4 & 15;
            if (p < FIRST_OF_TWO_PLACES || p == NO_FOCUS) {
                return p >= FIRST_OF_ONE_PLACE;
            }
            return p < SAME && q >= FIRST_OF_ONE_PLACE && q < FIRST_OF_TWO_PLACES;
        }

        void set(int from, int to, int what, int precondition) {
            this.from = from;
            this.to = to;
            this.focus = what & 15;
            this.along = what >> 4 & 15;
            this.creates = what >= 256;
            this.precondition = precondition;
        }

        /** The caller has seen that there is room. */
        int addChange(int p, int f) {
            changed[changes] = p;
            changeFormula[changes] = f;
            changes++;
            return changes;
        }
    }

    /** Applies edges to structures. */
    private static final class Mover {
        private final Evaluator evaluator;
        private final Rules rules;
        private final Structure before = new Structure();
        Bag work = new Bag(MOST_FOCUSED);

        Mover(Evaluator evaluator, Rules rules) {
            this.evaluator = evaluator;
            this.rules = rules;
        }

        /** Applies an edge to s: what comes out is in work then; false when it is unknown. */
        boolean move(Edge edge, Structure s) {
            work.count = 0;
            work.addCopy(s);
            if (edge.focus != NO_FOCUS && !focusAll(edge)) {
                return false;
            }
            int kept = 0;
            for (int i = 0; i < work.count; i++) {
                Structure one = work.all[i];
                if (evaluator.evaluate(one, edge.precondition, 0, 0) != 0) {
                    if (edge.creates && one.individuals == MOST_INDIVIDUALS) {
                        return false;
                    }
                    alter(edge, one);
                    if (rules.sharpen(one)) {
                        work.swap(i, kept);
                        kept++;
                    }
                }
            }
            work.count = kept;
            return true;
        }

        /** Leaves each structure as the one in which each HALF has become 0, and adds the others. */
        private boolean focusAll(Edge edge) {
            // What is added on the way is focused in its turn.
            for (int i = 0; i < MOST_FOCUSED && i < work.count; i++) {
                Structure s = work.all[i];
                int pivot = edge.focus < FIRST_OF_TWO_PLACES ? 0 : pivotOf(s, edge.along);
                for (int x = 0; x < s.individuals && pivot >= 0; x++) {
                    boolean half = s.row[focusCell(edge.focus, pivot, x)] == HALF;
                    if (half && !branch(s, edge.focus, pivot, x)) {
                        return false;
                    }
                }
            }
            return true;
        }

        private static int pivotOf(Structure s, int q) {
            for (int u = 0; u < s.individuals; u++) {
                if (s.at(q, u, 0) == 1 && !s.isSummary(u)) {
                    return u;
                }
            }
            return -1;
        }

        private static int focusCell(int p, int pivot, int x) {
            return p < FIRST_OF_TWO_PLACES ? Structure.cellOf(p, x, 0) : Structure.cellOf(p, pivot, x);
        }

        private boolean branch(Structure s, int p, int pivot, int x) {
            int cell = focusCell(p, pivot, x);
            boolean splits = s.isSummary(x);
            // Each structure in work leaves at least one, so work is never fuller than the outcome.
            if (splits && s.individuals == MOST_INDIVIDUALS || !work.hasRoom(splits ? 2 : 1)) {
                return false;
            }
            s.row[cell] = 0;
            work.addCopy(s).row[cell] = 1;
            if (splits) {
                Structure parted = work.addCopy(s);
                parted.addLike(x);
                parted.row[focusCell(p, pivot, parted.individuals - 1)] = 1;
            }
            return true;
        }

        /** Creates, if the edge does, and makes the changes. */
        private void alter(Edge edge, Structure one) {
            if (edge.creates) {
                one.addCreated();
            }
            before.copyFrom(one);
            for (int i = 0; i < edge.changes; i++) {
                int p = edge.changed[i];
                int firsts = p < FIRST_OF_ONE_PLACE ? 1 : before.individuals;
                int seconds = p < FIRST_OF_TWO_PLACES ? 1 : before.individuals;
                for (int u = 0; u < firsts; u++) {
                    for (int w = 0; w < seconds; w++) {
                        one.set(p, u, w, evaluator.evaluate(before, edge.changeFormula[i], u, w));
                    }
                }
            }
        }
    }
}
