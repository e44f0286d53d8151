import java.util.Random;

/**
 * The document's first sentence: whatever store a run of the program can reach is covered by some
 * structure at that point. Programs and stores are chosen with a fixed seed; a store has neither HALF nor
 * summaries, and the program is followed on it step by step beside the run. What is known of a formula at
 * a point covers its value in every store that gets there.
 */
final class CoverTest {
    private static final int PROGRAMS = 4000;
    // A step is 29 calls at most, and what comes before the first one less than 220.
    private static final int STEPS = 10;
    private static final int STORE = 0;
    private static final int COVER = 1;
    private static final int HALF = 2;
    private static final Check check = new Check("CoverTest");
    private static int runsSeen = 0;
    private static int stepsSeen = 0;

    private final Random random;
    private final ThreeValues x = new ThreeValues();
    private final int[] free = new int[40];
    private final int[] from = new int[8];
    private final int[] to = new int[8];
    private int formulas = 0;
    private int edges = 0;

    private CoverTest(long seed) {
        random = new Random(seed);
    }

    public static void main(String[] args) {
        for (int seed = 0; seed < PROGRAMS; seed++) {
            new CoverTest(seed).follow("seed " + seed);
        }
        check.yes("many runs, not " + runsSeen, runsSeen > PROGRAMS / 2);
        check.yes("many steps, not " + stepsSeen, stepsSeen > PROGRAMS);
        check.end();
    }

    private int upTo(int n) {
        return random.nextInt(n);
    }

    private boolean oneIn(int n) {
        return upTo(n) == 0;
    }

    private void follow(String title) {
        makeFormulas();
        makeRules();
        makeEdges();
        makeStore();
        int point = upTo(4);
        startWithCover(point);
        if (x.run() == ThreeValues.UNKNOWN) {
            return;
        }
        runsSeen++;
        look(title, point);
        for (int step = 0; step < STEPS; step++) {
            int e = edgeFrom(point);
            if (e < 0 || x.apply(e, STORE) < 1) {
                return;
            }
            stepsSeen++;
            point = to[e];
            check.yes(title + ": one store comes out", x.pile(0, STORE) && !x.pile(1, STORE));
            look(title + ", step " + step + " along edge " + e, point);
        }
    }

    private void makeFormulas() {
        add(0, 0, 0, 0, 0);
        add(0, 1, 0, 0, 0);
        add(1, 6, 4, 5, 0);
        add(1, 7, 4, 5, 0);
        for (int p = 0; p < 8; p++) {
            add(1, p, 0, 1, 0);
        }
        add(1, 2 + upTo(4), 1, 0, 0);
        add(2, 0, 0, 1, 0);
        for (int i = 0; i < 20; i++) {
            add(3 + upTo(6), someVariable(), someVariable(), upTo(formulas), upTo(formulas));
        }
    }

    private int someVariable() {
        return upTo(oneIn(4) ? 6 : 2);
    }

    private void add(int kind, int a, int b, int c, int d) {
        int f = x.formula(kind, a, b, c, d);
        if (f >= 0) {
            free[f] = x.free(f);
            formulas = f + 1;
        }
    }

    /** A formula with none but these variables free, mostly one that has parts. */
    private int formulaWith(int allowed) {
        int found = 1;
        for (int tries = 0; tries < 40 && found < 2; tries++) {
            int f = upTo(formulas);
            found = (free[f] & ~allowed) == 0 ? f : found;
        }
        return found;
    }

    private void makeRules() {
        int rules = upTo(3);
        for (int i = 0; i < rules; i++) {
            x.rule(formulaWith(3), 2 + upTo(7), upTo(2));
        }
    }

    private void makeEdges() {
        int count = 2 + upTo(4);
        for (int i = 0; i < count; i++) {
            int what = (oneIn(4) ? 15 : 2 + upTo(6)) + 16 * (2 + upTo(4)) + (oneIn(5) ? 256 : 0);
            from[edges] = upTo(4);
            to[edges] = upTo(4);
            int e = x.edge(from[edges], to[edges], what, oneIn(2) ? 1 : formulaWith(0));
            edges++;
            int changes = upTo(3);
            for (int k = 0; k < changes; k++) {
                int p = upTo(8);
                x.change(e, p, formulaWith(p < 2 ? 0 : p < 6 ? 1 : 3));
            }
        }
    }

    private void makeStore() {
        int n = upTo(5);
        x.universe(STORE, n);
        x.universe(COVER, n);
        for (int p = 0; p < 8; p++) {
            for (int u = 0; u < (p < 2 ? 1 : n); u++) {
                for (int w = 0; w < (p < 6 ? 1 : n); w++) {
                    if (oneIn(3)) {
                        x.put(STORE, p, u, w, 1);
                        x.put(COVER, p, u, w, 1);
                    }
                }
            }
        }
    }

    /** Less is known in the cover than in the store. */
    private void startWithCover(int point) {
        int n = x.blur(COVER);
        for (int u = 0; u < n; u++) {
            if (oneIn(3)) {
                x.summary(COVER, u, true);
            }
            if (oneIn(2)) {
                x.put(COVER, 2 + upTo(4), u, 0, HALF);
            }
            x.put(COVER, 6 + upTo(2), u, upTo(n), HALF);
        }
        check.yes("a cover", x.embeds(STORE, COVER));
        x.start(point, COVER);
    }

    private int edgeFrom(int point) {
        int first = upTo(edges);
        for (int i = 0; i < edges; i++) {
            int e = (first + i) % edges;
            if (from[e] == point) {
                return e;
            }
        }
        return -1;
    }

    private void look(String title, int point) {
        check.yes(title + ": a store at point " + point + " is covered", isCovered(point));
        int f = formulaWith(0);
        int known = x.known(point, f);
        check.yes(title + ": known at point " + point + " of formula " + f,
            known == HALF || known == x.value(STORE, f, 0, 0));
    }

    private boolean isCovered(int point) {
        int n = x.recorded(point);
        for (int i = 0; i < n; i++) {
            x.show(point, i, COVER);
            if (x.embeds(STORE, COVER)) {
                return true;
            }
        }
        return false;
    }
}
