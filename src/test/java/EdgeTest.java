/** Promises 14 to 17: edge, change, apply, pile. */
final class EdgeTest {
    private static final int BAD = ThreeValues.BAD;
    private static final int UNKNOWN = ThreeValues.UNKNOWN;
    private static final int NONE = 15;
    private static final int CREATE = 256;
    private static final Check check = new Check("EdgeTest");

    public static void main(String[] args) {
        edgeWhat();
        edgeRefused();
        changeRefused();
        focusOnePlace();
        focusSplits();
        focusSplitValues();
        focusTwoPlaces();
        focusTwoPlacesSplits();
        focusWithoutPivot();
        tooManyFocused();
        tooManyIndividuals();
        sixIndividuals();
        precondition();
        create();
        createTooMany();
        changesAtOnce();
        createdAfterChanges();
        changesOfNoPlace();
        coercedAfterChanges();
        sortedPile();
        pileStays();
        pileRefused();
        check.end();
    }

    /** A new object with formula 0, which is 1. */
    private static ThreeValues fresh() {
        ThreeValues x = new ThreeValues();
        x.formula(0, 1, 0, 0, 0);
        return x;
    }

    private static boolean isTold(int what) {
        int p = what % 16;
        int q = what / 16 % 16;
        if (what < 0 || what > 511) {
            return false;
        }
        return p >= 2 && p <= 5 || p == 15 || (p == 6 || p == 7) && q >= 2 && q <= 5;
    }

    private static void edgeWhat() {
        for (int first = -40; first < 600; first += 8) {
            ThreeValues x = fresh();
            int edges = 0;
            for (int what = first; what < first + 8; what++) {
                boolean told = isTold(what);
                check.due("edge with what " + what, x.edge(0, 3, what, 0), told ? edges : BAD);
                edges += told ? 1 : 0;
            }
        }
        ThreeValues x = fresh();
        check.due("least what", x.edge(0, 0, Integer.MIN_VALUE, 0), BAD);
        check.due("greatest what", x.edge(0, 0, Integer.MAX_VALUE, 0), BAD);
        check.due("what 15 - 512", x.edge(0, 0, 15 - 512, 0), BAD);
    }

    private static void edgeRefused() {
        ThreeValues x = fresh();
        int open = x.formula(1, 2, 3, 0, 0);
        int closed = x.formula(6, 3, 0, open, 0);
        check.due("from -1", x.edge(-1, 0, NONE, 0), BAD);
        check.due("from 4", x.edge(4, 0, NONE, 0), BAD);
        check.due("to -1", x.edge(0, -1, NONE, 0), BAD);
        check.due("to 4", x.edge(0, 4, NONE, 0), BAD);
        check.due("formula -1", x.edge(0, 0, NONE, -1), BAD);
        check.due("formula 3", x.edge(0, 0, NONE, 3), BAD);
        check.due("free variable", x.edge(0, 0, NONE, open), BAD);
        for (int e = 0; e < 8; e++) {
            check.due("edge", x.edge(e % 4, 3 - e % 4, NONE, closed), e);
        }
        check.due("one more", x.edge(0, 0, NONE, 0), ThreeValues.FULL);
        check.due("bad before full", x.edge(0, 0, NONE, open), BAD);
        check.due("bad before full", x.edge(0, 0, 8, 0), BAD);
    }

    private static void changeRefused() {
        ThreeValues x = fresh();
        int first = x.formula(1, 2, 0, 0, 0);
        int second = x.formula(1, 2, 1, 0, 0);
        int both = x.formula(1, 6, 0, 1, 0);
        int third = x.formula(1, 2, 2, 0, 0);
        check.due("no edge", x.change(0, 0, 0), BAD);
        for (int e = 0; e < 7; e++) {
            x.edge(0, 0, NONE, 0);
        }
        check.due("edge -1", x.change(-1, 2, 0), BAD);
        check.due("edge 7", x.change(7, 2, 0), BAD);
        check.due("predicate -1", x.change(0, -1, 0), BAD);
        check.due("predicate 8", x.change(0, 8, 0), BAD);
        check.due("formula -1", x.change(0, 2, -1), BAD);
        check.due("formula 5", x.change(0, 2, 5), BAD);
        int[] allowed = {0, 0, 1, 1, 1, 1, 2, 2};
        for (int p = 0; p < 8; p++) {
            int e = p % 7;
            // Edge 0 is met twice, and has a change from the first time.
            int made = p == 7 ? 1 : 0;
            check.due("first, p " + p, x.change(e, p, first), allowed[p] > 0 ? ++made : BAD);
            check.due("second, p " + p, x.change(e, p, second), allowed[p] > 1 ? ++made : BAD);
            check.due("both, p " + p, x.change(e, p, both), allowed[p] > 1 ? ++made : BAD);
            check.due("third, p " + p, x.change(e, p, third), BAD);
            if (p == 0) {
                check.due("none", x.change(e, p, 0), 1);
            }
        }
        check.due("edge 2: second", x.change(2, 0, 0), 2);
        check.due("edge 2: third", x.change(2, 7, both), 3);
        check.due("edge 2: fourth", x.change(2, 7, both), 4);
        check.due("edge 2: one more", x.change(2, 7, both), ThreeValues.FULL);
        check.due("bad before full", x.change(2, 0, first), BAD);
        check.due("bad before full", x.change(2, 8, 0), BAD);
        check.due("another edge has room", x.change(3, 0, 0), 2);
    }

    /** Two halves, no summaries: four structures, in order. */
    private static void focusOnePlace() {
        for (int p = 2; p < 6; p++) {
            ThreeValues x = fresh();
            check.due("edge", x.edge(0, 1, p + 16 * 9, 0), 0);
            x.universe(0, 3);
            x.put(0, p, 0, 0, 2);
            x.put(0, p, 1, 0, 1);
            x.put(0, p, 2, 0, 2);
            x.put(0, 7 - p, 1, 0, 2);
            check.due("apply", x.apply(0, 0), 4);
            for (int i = 0; i < 4; i++) {
                check.yes("pile", x.pile(i, 1));
                check.due("p(0)", x.get(1, p, 0, 0), i / 2);
                check.due("p(1)", x.get(1, p, 1, 0), 1);
                check.due("p(2)", x.get(1, p, 2, 0), i % 2);
                check.due("another predicate", x.get(1, 7 - p, 1, 0), 2);
                check.due("size", x.size(1), 3);
            }
            check.no("no more", x.pile(4, 1));
            check.due("the slot stays", x.get(0, p, 0, 0), 2);
            check.due("the slot stays", x.get(0, p, 2, 0), 2);
        }
    }

    private static void focusSplits() {
        ThreeValues x = fresh();
        x.edge(0, 0, 3, 0);
        x.universe(0, 2);
        x.summary(0, 0, true);
        x.summary(0, 1, true);
        x.put(0, 3, 0, 0, 2);
        check.due("apply", x.apply(0, 0), 3);
        x.pile(0, 1);
        check.due("0", x.get(1, 3, 0, 0), 0);
        check.due("a summary still", x.get(1, 8, 0, 0), 2);
        x.pile(1, 1);
        check.due("1", x.get(1, 3, 0, 0), 1);
        check.due("a summary still", x.get(1, 8, 0, 0), 2);
        x.pile(2, 1);
        check.due("split", x.size(1), 3);
        check.due("the old one", x.get(1, 3, 0, 0), 0);
        check.due("the new one", x.get(1, 3, 2, 0), 1);
        check.due("the other one", x.get(1, 3, 1, 0), 0);
        for (int u = 0; u < 3; u++) {
            check.due("all are summaries", x.get(1, 8, u, u), 2);
        }
        x.put(0, 3, 1, 0, 2);
        check.due("two summaries, each in three ways", x.apply(0, 0), 9);
        x.pile(8, 1);
        check.due("both split", x.size(1), 4);
        check.due("old 0", x.get(1, 3, 0, 0), 0);
        check.due("old 1", x.get(1, 3, 1, 0), 0);
        check.due("new 2", x.get(1, 3, 2, 0), 1);
        check.due("new 3", x.get(1, 3, 3, 0), 1);
    }

    /** All that the new one has is what the split one has. */
    private static void focusSplitValues() {
        ThreeValues x = fresh();
        x.edge(0, 0, 2, 0);
        x.universe(0, 3);
        x.put(0, 0, 0, 0, 1);
        x.put(0, 1, 0, 0, 2);
        x.summary(0, 1, true);
        x.put(0, 2, 1, 0, 2);
        x.put(0, 3, 1, 0, 1);
        x.put(0, 4, 1, 0, 2);
        x.put(0, 5, 0, 0, 1);
        x.put(0, 6, 0, 1, 1);
        x.put(0, 6, 1, 0, 2);
        x.put(0, 6, 1, 1, 1);
        x.put(0, 7, 1, 1, 2);
        x.put(0, 7, 1, 2, 1);
        x.put(0, 7, 2, 2, 1);
        check.due("apply", x.apply(0, 0), 3);
        x.pile(2, 1);
        check.due("size", x.size(1), 4);
        check.due("p0", x.get(1, 0, 0, 0), 1);
        check.due("p1", x.get(1, 1, 0, 0), 2);
        check.due("p2 old", x.get(1, 2, 1, 0), 0);
        check.due("p2 new", x.get(1, 2, 3, 0), 1);
        for (int p = 3; p < 6; p++) {
            check.due("one place", x.get(1, p, 3, 0), x.get(0, p, 1, 0));
        }
        int[] was = {0, 1, 2, 1};
        for (int p = 6; p < 8; p++) {
            for (int u = 0; u < 4; u++) {
                for (int w = 0; w < 4; w++) {
                    check.due("two places", x.get(1, p, u, w), x.get(0, p, was[u], was[w]));
                }
            }
        }
    }

    private static void focusTwoPlaces() {
        for (int p = 6; p < 8; p++) {
            for (int q = 2; q < 6; q++) {
                ThreeValues x = fresh();
                x.edge(0, 0, p + 16 * q, 0);
                x.universe(0, 4);
                x.put(0, q, 0, 0, 1);
                x.summary(0, 0, true);
                x.put(0, q, 1, 0, 2);
                x.put(0, q, 2, 0, 1);
                x.put(0, q, 3, 0, 1);
                for (int u = 0; u < 4; u++) {
                    x.put(0, p, u, 3, 2);
                    x.put(0, 13 - p, u, 1, 2);
                }
                x.put(0, p, 2, 2, 2);
                check.due("the pivot is 2", x.apply(0, 0), 4);
                for (int i = 0; i < 4; i++) {
                    x.pile(i, 1);
                    check.due("p(2, 2)", x.get(1, p, 2, 2), i / 2);
                    check.due("p(2, 3)", x.get(1, p, 2, 3), i % 2);
                    check.due("p(0, 3)", x.get(1, p, 0, 3), 2);
                    check.due("p(1, 3)", x.get(1, p, 1, 3), 2);
                    check.due("p(3, 3)", x.get(1, p, 3, 3), 2);
                    check.due("the other one", x.get(1, 13 - p, 2, 1), 2);
                }
            }
        }
    }

    private static void focusTwoPlacesSplits() {
        ThreeValues x = fresh();
        x.edge(0, 0, 6 + 16 * 2, 0);
        x.universe(0, 2);
        x.put(0, 2, 0, 0, 1);
        x.summary(0, 1, true);
        x.put(0, 3, 1, 0, 1);
        x.put(0, 6, 0, 1, 2);
        x.put(0, 6, 1, 0, 1);
        x.put(0, 6, 1, 1, 2);
        x.put(0, 7, 0, 1, 2);
        check.due("apply", x.apply(0, 0), 3);
        x.pile(0, 1);
        check.due("0", x.get(1, 6, 0, 1), 0);
        x.pile(1, 1);
        check.due("1", x.get(1, 6, 0, 1), 1);
        check.due("size", x.size(1), 2);
        x.pile(2, 1);
        check.due("size", x.size(1), 3);
        check.due("to the old one", x.get(1, 6, 0, 1), 0);
        check.due("to the new one", x.get(1, 6, 0, 2), 1);
        check.due("from the new one", x.get(1, 6, 2, 0), 1);
        check.due("new and new", x.get(1, 6, 2, 2), 2);
        check.due("old and new", x.get(1, 6, 1, 2), 2);
        check.due("new and old", x.get(1, 6, 2, 1), 2);
        check.due("p7 to the new one", x.get(1, 7, 0, 2), 2);
        check.due("p3 of the new one", x.get(1, 3, 2, 0), 1);
        check.due("p2 of the new one", x.get(1, 2, 2, 0), 0);
        check.due("a summary too", x.get(1, 8, 2, 2), 2);
    }

    private static void focusWithoutPivot() {
        ThreeValues x = fresh();
        x.edge(0, 0, 7 + 16 * 4, 0);
        check.due("no individuals", x.apply(0, 0), 1);
        x.universe(0, 2);
        x.put(0, 4, 0, 0, 2);
        x.put(0, 4, 1, 0, 1);
        x.summary(0, 1, true);
        for (int u = 0; u < 2; u++) {
            x.put(0, 7, u, 0, 2);
            x.put(0, 7, u, 1, 2);
        }
        check.due("nothing is to be done", x.apply(0, 0), 1);
        x.pile(0, 1);
        check.yes("the same", x.embeds(0, 1) && x.embeds(1, 0));
        x.put(0, 4, 0, 0, 1);
        check.due("now there is one", x.apply(0, 0), 6);
    }

    /** Each half makes two, each half summary three: 32, 36, 27 and 24 are known, 48 and 64 are not. */
    private static void tooManyFocused() {
        int[][] rows = {{5, 0, 32}, {6, 0, UNKNOWN}, {3, 1, 24}, {2, 2, 36}, {0, 3, 27}, {4, 1, UNKNOWN}};
        for (int[] row : rows) {
            ThreeValues x = fresh();
            int never = x.formula(0, 0, 0, 0, 0);
            x.edge(0, 0, 4, 0);
            x.edge(0, 0, 4, never);
            x.universe(0, row[0] + row[1]);
            for (int u = 0; u < row[0] + row[1]; u++) {
                x.put(0, 4, u, 0, 2);
                x.summary(0, u, u >= row[0]);
            }
            check.due("apply", x.apply(0, 0), row[2]);
            check.due("apply, none goes on", x.apply(1, 0), row[2] < 0 ? UNKNOWN : 0);
        }
    }

    private static void tooManyIndividuals() {
        ThreeValues x = fresh();
        int never = x.formula(0, 0, 0, 0, 0);
        x.edge(0, 0, 2, 0);
        x.edge(0, 0, 2, never);
        x.universe(0, 5);
        x.summary(0, 4, true);
        x.put(0, 2, 4, 0, 2);
        check.due("five and one", x.apply(0, 0), 3);
        check.due("five and one, none goes on", x.apply(1, 0), 0);
        x.put(0, 2, 3, 0, 2);
        x.summary(0, 3, true);
        check.due("five and two", x.apply(0, 0), UNKNOWN);
        x.universe(0, 6);
        x.summary(0, 5, true);
        check.due("six without a half", x.apply(0, 0), 1);
        x.put(0, 2, 5, 0, 2);
        check.due("six and one", x.apply(0, 0), UNKNOWN);
        check.due("six and one, though none goes on", x.apply(1, 0), UNKNOWN);
        x.summary(0, 5, false);
        check.due("six and no split", x.apply(0, 0), 2);
    }

    /** Halves of other predicates and of other rows are no matter, up to the last individual. */
    private static void sixIndividuals() {
        for (int p = 2; p < 8; p++) {
            ThreeValues x = fresh();
            x.edge(0, 0, p + 16 * 2, 0);
            x.universe(0, 6);
            x.put(0, 2, 5, 0, 1);
            for (int u = 0; u < 6; u++) {
                x.put(0, 6, u, 5 - u, p < 6 || u < 5 ? 2 : 1);
                x.put(0, 7, 0, u, 2);
                x.put(0, 6, 0, u, 2);
            }
            check.due("nothing to focus on", x.apply(0, 0), 1);
            x.put(0, p, 5, 5, 2);
            if (p > 2) {
                check.due("the last one", x.apply(0, 0), 2);
            }
        }
    }

    /** It is asked after focusing and before creating, and half lets pass. */
    private static void precondition() {
        ThreeValues x = new ThreeValues();
        int marked = x.formula(1, 2, 2, 0, 0);
        int some = x.formula(6, 2, 0, marked, 0);
        int flag = x.formula(1, 0, 0, 0, 0);
        int fresh = x.formula(1, 5, 2, 0, 0);
        int created = x.formula(6, 2, 0, fresh, 0);
        x.edge(0, 0, 2, some);
        x.edge(0, 0, NONE, some);
        x.edge(0, 0, NONE, flag);
        x.edge(0, 0, NONE + CREATE, created);
        x.universe(0, 1);
        x.put(0, 2, 0, 0, 2);
        check.due("focused: one of two", x.apply(0, 0), 1);
        x.pile(0, 1);
        check.due("the one with 1", x.get(1, 2, 0, 0), 1);
        check.due("half goes on", x.apply(1, 0), 1);
        x.pile(0, 1);
        check.due("and stays half", x.get(1, 2, 0, 0), 2);
        check.due("flag 0", x.apply(2, 0), 0);
        check.no("an empty pile", x.pile(0, 1));
        x.put(0, 0, 0, 0, 1);
        check.due("flag 1", x.apply(2, 0), 1);
        check.due("asked before creating", x.apply(3, 0), 0);
    }

    private static void create() {
        ThreeValues x = fresh();
        x.edge(0, 0, NONE + CREATE, 0);
        check.due("apply", x.apply(0, 0), 1);
        x.pile(0, 1);
        check.due("one", x.size(1), 1);
        check.due("p5", x.get(1, 5, 0, 0), 1);
        check.due("no summary", x.get(1, 8, 0, 0), 1);
        x.universe(0, 3);
        x.put(0, 1, 0, 0, 2);
        for (int u = 0; u < 3; u++) {
            x.summary(0, u, u == 1);
            x.put(0, 2, u, 0, 2);
            x.put(0, 5, u, 0, (u + 1) % 3);
            for (int w = 0; w < 3; w++) {
                x.put(0, 6, u, w, 1);
                x.put(0, 7, u, w, 2);
            }
        }
        check.due("apply", x.apply(0, 0), 1);
        x.pile(0, 1);
        check.due("size", x.size(1), 4);
        check.due("p1", x.get(1, 1, 0, 0), 2);
        for (int u = 0; u < 4; u++) {
            check.due("summary", x.get(1, 8, u, u), u == 1 ? 2 : 1);
            check.due("p2", x.get(1, 2, u, 0), u < 3 ? 2 : 0);
            check.due("p3", x.get(1, 3, u, 0), 0);
            check.due("p4", x.get(1, 4, u, 0), 0);
            check.due("p5", x.get(1, 5, u, 0), u < 3 ? 0 : 1);
            for (int w = 0; w < 4; w++) {
                check.due("p6", x.get(1, 6, u, w), u < 3 && w < 3 ? 1 : 0);
                check.due("p7", x.get(1, 7, u, w), u < 3 && w < 3 ? 2 : 0);
            }
        }
        check.due("the slot stays", x.get(0, 5, 0, 0), 1);
        check.due("the slot stays", x.size(0), 3);
    }

    private static void createTooMany() {
        ThreeValues x = fresh();
        int never = x.formula(0, 0, 0, 0, 0);
        int marked = x.formula(1, 2, 2, 0, 0);
        int some = x.formula(6, 2, 0, marked, 0);
        x.edge(0, 0, NONE + CREATE, 0);
        x.edge(0, 0, NONE + CREATE, never);
        x.edge(0, 0, 2 + CREATE, some);
        x.universe(0, 5);
        check.due("a sixth", x.apply(0, 0), 1);
        x.pile(0, 1);
        check.due("six", x.size(1), 6);
        check.due("a seventh", x.apply(0, 1), UNKNOWN);
        check.due("no seventh where the precondition is 0", x.apply(1, 1), 0);
        check.due("none marked", x.apply(2, 1), 0);
        x.put(1, 2, 3, 0, 2);
        check.due("perhaps marked", x.apply(2, 1), UNKNOWN);
        x.rule(0, 2, 1);
        x.rule(0, 2, 0);
        check.due("impossible for five", x.apply(0, 0), 0);
        check.due("also if it would be impossible", x.apply(0, 1), UNKNOWN);
    }

    /** p2 and p3 change places, p6 turns about, p4 is changed twice. */
    private static void changesAtOnce() {
        ThreeValues x = fresh();
        int two = x.formula(1, 2, 0, 0, 0);
        int three = x.formula(1, 3, 0, 0, 0);
        int turned = x.formula(1, 6, 1, 0, 0);
        int half = x.formula(0, 2, 0, 0, 0);
        x.edge(0, 0, NONE, 0);
        check.due("change", x.change(0, 2, three), 1);
        check.due("change", x.change(0, 3, two), 2);
        check.due("change", x.change(0, 6, turned), 3);
        x.edge(0, 0, NONE, 0);
        x.change(1, 4, half);
        x.change(1, 4, two);
        x.change(1, 5, x.formula(1, 4, 0, 0, 0));
        x.universe(0, 3);
        for (int u = 0; u < 3; u++) {
            x.put(0, 2, u, 0, u);
            x.put(0, 3, u, 0, 2 - u);
            x.put(0, 4, u, 0, (u + 1) % 3);
            x.put(0, 6, u, 0, u);
            x.put(0, 7, 0, u, u);
        }
        check.due("apply", x.apply(0, 0), 1);
        x.pile(0, 1);
        for (int u = 0; u < 3; u++) {
            check.due("p2", x.get(1, 2, u, 0), 2 - u);
            check.due("p3", x.get(1, 3, u, 0), u);
            check.due("p6", x.get(1, 6, 0, u), u);
            check.due("p6", x.get(1, 6, u, 0), 0);
            check.due("p7 stays", x.get(1, 7, 0, u), u);
        }
        check.due("apply", x.apply(1, 0), 1);
        x.pile(0, 1);
        for (int u = 0; u < 3; u++) {
            check.due("the last one counts", x.get(1, 4, u, 0), u);
            check.due("by what was before", x.get(1, 5, u, 0), (u + 1) % 3);
            check.due("the slot stays", x.get(0, 4, u, 0), (u + 1) % 3);
        }
    }

    /** What is changed to 1 for all is not so of one that is created later. */
    private static void createdAfterChanges() {
        ThreeValues x = fresh();
        x.edge(0, 0, NONE, 0);
        x.change(0, 2, 0);
        x.change(0, 6, 0);
        x.change(0, 7, 0);
        x.edge(0, 0, NONE + CREATE, 0);
        x.universe(0, 2);
        check.due("apply", x.apply(0, 0), 1);
        x.pile(0, 0);
        check.due("apply", x.apply(1, 0), 1);
        x.pile(0, 0);
        check.due("p2", x.get(0, 2, 1, 0), 1);
        check.due("p2", x.get(0, 2, 2, 0), 0);
        for (int u = 0; u < 3; u++) {
            for (int w = 0; w < 3; w++) {
                check.due("p6", x.get(0, 6, u, w), u < 2 && w < 2 ? 1 : 0);
                check.due("p7", x.get(0, 7, u, w), u < 2 && w < 2 ? 1 : 0);
            }
        }
        x.universe(0, 6);
        check.due("apply to six", x.apply(0, 0), 1);
        x.pile(0, 0);
        check.due("all of six", x.get(0, 7, 5, 5), 1);
        check.due("no more than that", x.get(0, 8, 5, 5), 1);
    }

    private static void changesOfNoPlace() {
        ThreeValues x = fresh();
        int marked = x.formula(1, 5, 2, 0, 0);
        int some = x.formula(6, 2, 0, marked, 0);
        int none = x.formula(3, 0, 0, some, 0);
        x.edge(0, 0, NONE, 0);
        x.change(0, 0, none);
        x.change(0, 1, some);
        x.edge(0, 0, NONE + CREATE, 0);
        x.change(1, 1, some);
        x.put(0, 1, 0, 0, 2);
        check.due("without individuals", x.apply(0, 0), 1);
        x.pile(0, 1);
        check.due("none", x.get(1, 0, 0, 0), 1);
        check.due("some", x.get(1, 1, 0, 0), 0);
        check.due("changed after creating", x.apply(1, 0), 1);
        x.pile(0, 1);
        check.due("some", x.get(1, 1, 0, 0), 1);
    }

    /** The rule is broken before the changes and kept after them, and the other way about. */
    private static void coercedAfterChanges() {
        ThreeValues x = fresh();
        int two = x.formula(1, 2, 0, 0, 0);
        int three = x.formula(1, 3, 0, 0, 0);
        x.rule(two, 3, 1);
        x.edge(0, 0, NONE, 0);
        x.change(0, 3, two);
        x.edge(0, 0, NONE, 0);
        x.change(1, 3, x.formula(3, 0, 0, three, 0));
        x.edge(0, 0, 3, 0);
        x.universe(0, 1);
        x.put(0, 2, 0, 0, 1);
        check.due("broken before", x.apply(0, 0), 1);
        x.put(0, 3, 0, 0, 1);
        check.due("broken after", x.apply(1, 0), 0);
        x.put(0, 3, 0, 0, 2);
        check.due("half is sharpened", x.apply(1, 0), 1);
        x.pile(0, 1);
        check.due("half is sharpened", x.get(1, 3, 0, 0), 1);
        check.due("one of two is impossible", x.apply(2, 0), 1);
        x.pile(0, 1);
        check.due("the other one", x.get(1, 3, 0, 0), 1);
    }

    /** Focused on p3 and p3 then changed to 0: the two that are alike come out twice. */
    private static void sortedPile() {
        ThreeValues x = fresh();
        int zero = x.formula(0, 0, 0, 0, 0);
        int three = x.formula(1, 3, 0, 0, 0);
        int not = x.formula(3, 0, 0, three, 0);
        x.edge(0, 0, 3, 0);
        x.change(0, 3, zero);
        x.edge(0, 0, 3, 0);
        x.change(1, 2, not);
        x.universe(0, 1);
        x.put(0, 3, 0, 0, 2);
        check.due("alike", x.apply(0, 0), 2);
        for (int i = 0; i < 2; i++) {
            check.yes("pile", x.pile(i, 1));
            check.due("p3", x.get(1, 3, 0, 0), 0);
        }
        check.due("turned in order", x.apply(1, 0), 2);
        x.pile(0, 1);
        check.due("p2 is before p3", x.get(1, 2, 0, 0), 0);
        check.due("p2 is before p3", x.get(1, 3, 0, 0), 1);
        x.pile(1, 1);
        check.due("p2 is before p3", x.get(1, 2, 0, 0), 1);
        check.due("p2 is before p3", x.get(1, 3, 0, 0), 0);
    }

    private static void pileStays() {
        ThreeValues x = fresh();
        x.edge(0, 1, NONE, 0);
        x.edge(0, 1, NONE + CREATE, 0);
        x.universe(0, 6);
        x.put(0, 2, 4, 0, 2);
        check.due("apply", x.apply(0, 0), 1);
        check.due("bad edge", x.apply(2, 0), BAD);
        check.due("bad edge", x.apply(-1, 0), BAD);
        check.due("bad slot", x.apply(0, 4), BAD);
        check.due("bad slot", x.apply(0, -1), BAD);
        check.due("unknown", x.apply(1, 0), UNKNOWN);
        x.start(0, 1);
        x.run();
        x.universe(0, 1);
        check.yes("pile", x.pile(0, 2));
        check.due("as it was", x.size(2), 6);
        check.due("as it was", x.get(2, 2, 4, 0), 2);
        x.put(2, 2, 4, 0, 1);
        check.yes("pile", x.pile(0, 3));
        check.due("a copy", x.get(3, 2, 4, 0), 2);
    }

    private static void pileRefused() {
        ThreeValues x = fresh();
        check.no("nothing there", x.pile(0, 0));
        x.edge(0, 0, 2, 0);
        x.universe(0, 1);
        x.put(0, 2, 0, 0, 2);
        check.due("apply", x.apply(0, 0), 2);
        check.no("-1", x.pile(-1, 1));
        check.no("2", x.pile(2, 1));
        check.no("slot 4", x.pile(0, 4));
        check.no("slot -1", x.pile(0, -1));
        check.due("nothing came", x.size(1), 0);
        check.yes("over the slot it came from", x.pile(1, 0));
        check.due("over the slot it came from", x.get(0, 2, 0, 0), 1);
    }
}
