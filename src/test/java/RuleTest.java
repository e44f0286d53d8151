/** Promises 12 and 13: rule, coerce. */
final class RuleTest {
    private static final int BAD = ThreeValues.BAD;
    private static final Check check = new Check("RuleTest");

    public static void main(String[] args) {
        ruleRefused();
        onePlace();
        onePlaceWithAnySecond();
        twoPlaces();
        same();
        sameOfTwo();
        sameNever();
        halfDoesNothing();
        chain();
        impossibleStays();
        closedFormula();
        noIndividuals();
        coerceRefused();
        check.end();
    }

    private static void ruleRefused() {
        ThreeValues x = new ThreeValues();
        int both = x.formula(1, 6, 0, 1, 0);
        int third = x.formula(1, 6, 0, 2, 0);
        check.due("formula 2", x.rule(2, 2, 1), BAD);
        check.due("formula -1", x.rule(-1, 2, 1), BAD);
        check.due("other variable", x.rule(third, 2, 1), BAD);
        for (int p : new int[] {-1, 0, 1, 9}) {
            check.due("predicate", x.rule(both, p, 1), BAD);
        }
        check.due("value 2", x.rule(both, 2, 2), BAD);
        check.due("value -1", x.rule(both, 2, -1), BAD);
        for (int i = 1; i <= 6; i++) {
            check.due("rule", x.rule(both, i == 6 ? 8 : 2 + i % 2, i % 2), i);
        }
        check.due("one more", x.rule(both, 2, 1), ThreeValues.FULL);
        check.due("bad before full", x.rule(third, 2, 1), BAD);
        check.due("bad before full", x.rule(both, 2, 2), BAD);
    }

    private static void onePlace() {
        for (int c = 0; c < 2; c++) {
            ThreeValues x = new ThreeValues();
            int marked = x.formula(1, 2, 0, 0, 0);
            check.due("rule", x.rule(marked, 5, c), 1);
            x.universe(2, 3);
            x.put(2, 2, 0, 0, 1);
            x.put(2, 2, 1, 0, 2);
            for (int u = 0; u < 3; u++) {
                x.put(2, 5, u, 0, 2);
            }
            check.yes("coerce", x.coerce(2));
            check.due("sharpened", x.get(2, 5, 0, 0), c);
            check.due("f is half", x.get(2, 5, 1, 0), 2);
            check.due("f is 0", x.get(2, 5, 2, 0), 2);
            check.due("f itself stays", x.get(2, 2, 1, 0), 2);
            check.yes("again", x.coerce(2));
            x.put(2, 5, 0, 0, 1 - c);
            check.no("impossible", x.coerce(2));
            check.due("as it was", x.get(2, 5, 0, 0), 1 - c);
        }
    }

    /** p3(u) is 1 if some w, perhaps u itself, has p6(w, u); without a free 1 it is u alone. */
    private static void onePlaceWithAnySecond() {
        ThreeValues x = new ThreeValues();
        int pointed = x.formula(1, 6, 1, 0, 0);
        x.rule(pointed, 3, 1);
        x.universe(0, 3);
        for (int u = 0; u < 3; u++) {
            x.put(0, 3, u, 0, 2);
        }
        x.put(0, 6, 2, 0, 1);
        x.put(0, 6, 1, 1, 1);
        check.yes("coerce", x.coerce(0));
        check.due("by 2", x.get(0, 3, 0, 0), 1);
        check.due("by itself", x.get(0, 3, 1, 0), 1);
        check.due("by none", x.get(0, 3, 2, 0), 2);
        ThreeValues y = new ThreeValues();
        int other = y.formula(1, 2, 1, 0, 0);
        y.rule(other, 3, 0);
        y.universe(0, 3);
        y.put(0, 2, 2, 0, 1);
        y.put(0, 3, 0, 0, 2);
        y.put(0, 3, 2, 0, 2);
        check.yes("coerce", y.coerce(0));
        check.due("0 by 2", y.get(0, 3, 0, 0), 0);
        check.due("2 by 2", y.get(0, 3, 2, 0), 0);
    }

    private static void twoPlaces() {
        ThreeValues x = new ThreeValues();
        int from = x.formula(1, 2, 0, 0, 0);
        int to = x.formula(1, 3, 1, 0, 0);
        int both = x.formula(4, 0, 0, from, to);
        x.rule(both, 7, 1);
        x.universe(0, 3);
        x.put(0, 2, 0, 0, 1);
        x.put(0, 3, 1, 0, 1);
        x.put(0, 3, 2, 0, 2);
        for (int u = 0; u < 3; u++) {
            for (int w = 0; w < 3; w++) {
                x.put(0, 7, u, w, 2);
            }
        }
        check.yes("coerce", x.coerce(0));
        for (int u = 0; u < 3; u++) {
            for (int w = 0; w < 3; w++) {
                check.due("p7", x.get(0, 7, u, w), u == 0 && w == 1 ? 1 : 2);
                check.due("p6 stays", x.get(0, 6, u, w), 0);
            }
        }
        x.put(0, 7, 0, 1, 0);
        check.no("impossible", x.coerce(0));
        x.put(0, 7, 0, 1, 1);
        x.put(0, 3, 0, 0, 1);
        check.yes("u and w are the same", x.coerce(0));
        check.due("u and w are the same", x.get(0, 7, 0, 0), 1);
    }

    private static void same() {
        ThreeValues x = new ThreeValues();
        int first = x.formula(1, 2, 0, 0, 0);
        int second = x.formula(1, 2, 1, 0, 0);
        int both = x.formula(4, 0, 0, first, second);
        x.rule(both, 8, 1);
        x.universe(0, 2);
        x.put(0, 2, 0, 0, 1);
        x.summary(0, 0, true);
        x.summary(0, 1, true);
        check.yes("coerce", x.coerce(0));
        check.due("no summary any more", x.get(0, 8, 0, 0), 1);
        check.due("still a summary", x.get(0, 8, 1, 1), 2);
        x.put(0, 2, 1, 0, 2);
        check.yes("half is not 1", x.coerce(0));
        check.due("still a summary", x.get(0, 8, 1, 1), 2);
        x.put(0, 2, 1, 0, 1);
        check.no("two cannot be one", x.coerce(0));
        check.due("as it was", x.get(0, 8, 1, 1), 2);
    }

    private static void sameOfTwo() {
        ThreeValues x = new ThreeValues();
        int one = x.formula(0, 1, 0, 0, 0);
        x.rule(one, 8, 1);
        x.universe(0, 1);
        x.summary(0, 0, true);
        check.yes("only one", x.coerce(0));
        check.due("no summary any more", x.get(0, 8, 0, 0), 1);
        x.universe(0, 2);
        check.no("two", x.coerce(0));
        x.universe(0, 0);
        check.yes("none", x.coerce(0));
    }

    private static void sameNever() {
        ThreeValues x = new ThreeValues();
        int edge = x.formula(1, 6, 0, 1, 0);
        x.rule(edge, 8, 0);
        x.universe(0, 2);
        x.summary(0, 1, true);
        x.put(0, 6, 0, 1, 1);
        x.put(0, 6, 1, 0, 1);
        check.yes("of two it is 0 anyway", x.coerce(0));
        check.due("still a summary", x.get(0, 8, 1, 1), 2);
        x.put(0, 6, 1, 1, 2);
        check.yes("half is not 1", x.coerce(0));
        x.put(0, 6, 1, 1, 1);
        check.no("of a summary", x.coerce(0));
        check.due("as it was", x.get(0, 8, 1, 1), 2);
        x.summary(0, 1, false);
        check.no("of no summary", x.coerce(0));
        x.put(0, 6, 1, 1, 0);
        check.yes("f is 0", x.coerce(0));
    }

    private static void halfDoesNothing() {
        ThreeValues x = new ThreeValues();
        int half = x.formula(0, 2, 0, 0, 0);
        int zero = x.formula(0, 0, 0, 0, 0);
        for (int p = 2; p < 5; p++) {
            x.rule(p == 3 ? zero : half, p, 1);
        }
        x.rule(half, 8, 0);
        x.universe(0, 2);
        check.yes("coerce", x.coerce(0));
        for (int p = 2; p < 5; p++) {
            check.due("stays", x.get(0, p, 1, 0), 0);
        }
    }

    /** Each rule waits for the one that was made after it: the last one makes an individual no summary. */
    private static void chain() {
        ThreeValues x = new ThreeValues();
        int[] f = new int[6];
        for (int p = 2; p < 6; p++) {
            f[p] = x.formula(1, p, 0, 0, 0);
        }
        int single = x.formula(2, 0, 0, 0, 0);
        int marked = x.formula(1, 6, 0, 1, 0);
        x.rule(f[3], 2, 1);
        x.rule(f[4], 3, 1);
        x.rule(f[5], 4, 1);
        x.rule(single, 5, 1);
        x.rule(marked, 8, 1);
        x.universe(0, 2);
        for (int u = 0; u < 2; u++) {
            x.summary(0, u, true);
            for (int p = 2; p < 6; p++) {
                x.put(0, p, u, 0, 2);
            }
        }
        x.put(0, 6, 0, 0, 1);
        x.put(0, 6, 0, 1, 2);
        check.yes("coerce", x.coerce(0));
        check.due("no summary", x.get(0, 8, 0, 0), 1);
        for (int p = 2; p < 6; p++) {
            check.due("all the way", x.get(0, p, 0, 0), 1);
            check.due("not of the other", x.get(0, p, 1, 0), 2);
        }
        x.put(0, 2, 0, 0, 0);
        x.put(0, 4, 0, 0, 2);
        x.put(0, 5, 0, 0, 2);
        x.summary(0, 0, true);
        check.no("impossible at the very end", x.coerce(0));
        check.due("as it was", x.get(0, 5, 0, 0), 2);
        check.due("as it was", x.get(0, 4, 0, 0), 2);
        check.due("as it was", x.get(0, 8, 0, 0), 2);
    }

    private static void impossibleStays() {
        ThreeValues x = new ThreeValues();
        int one = x.formula(0, 1, 0, 0, 0);
        x.rule(one, 2, 1);
        x.rule(one, 3, 0);
        x.rule(one, 2, 0);
        x.universe(0, 2);
        for (int u = 0; u < 2; u++) {
            x.put(0, 2, u, 0, 2);
            x.put(0, 3, u, 0, 2);
        }
        check.no("two rules against each other", x.coerce(0));
        for (int u = 0; u < 2; u++) {
            check.due("as it was", x.get(0, 2, u, 0), 2);
            check.due("as it was", x.get(0, 3, u, 0), 2);
        }
    }

    private static void closedFormula() {
        ThreeValues x = new ThreeValues();
        int flag = x.formula(1, 0, 0, 0, 0);
        x.rule(flag, 6, 0);
        x.universe(0, 2);
        x.put(0, 6, 1, 0, 2);
        x.put(0, 6, 1, 1, 2);
        check.yes("flag is 0", x.coerce(0));
        check.due("stays", x.get(0, 6, 1, 0), 2);
        x.put(0, 0, 0, 0, 1);
        check.yes("flag is 1", x.coerce(0));
        check.due("sharpened", x.get(0, 6, 1, 0), 0);
        check.due("sharpened", x.get(0, 6, 1, 1), 0);
    }

    private static void noIndividuals() {
        ThreeValues x = new ThreeValues();
        int one = x.formula(0, 1, 0, 0, 0);
        x.rule(one, 2, 1);
        x.rule(one, 6, 1);
        x.rule(one, 8, 0);
        check.yes("no rule does anything", x.coerce(0));
        x.universe(0, 1);
        check.no("with an individual it does", x.coerce(0));
    }

    private static void coerceRefused() {
        ThreeValues x = new ThreeValues();
        check.no("slot -1", x.coerce(-1));
        check.no("slot 4", x.coerce(4));
        check.yes("slot 3", x.coerce(3));
    }
}
