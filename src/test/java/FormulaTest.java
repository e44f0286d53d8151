/** Promises 7 to 9: formula, free, value. */
final class FormulaTest {
    private static final int BAD = ThreeValues.BAD;
    private static final Check check = new Check("FormulaTest");

    public static void main(String[] args) {
        numbers();
        refusedLeaves();
        refusedParts();
        depth();
        closureInClosure();
        full();
        free();
        connectives();
        holdsAndSame();
        quantifiers();
        noneBeyondTheLast();
        boundVariables();
        closure();
        closureSurerLater();
        closureWithOtherVariables();
        valueRefused();
        check.end();
    }

    private static void numbers() {
        ThreeValues x = new ThreeValues();
        check.due("constant", x.formula(0, 2, -1, -1, -1), 0);
        check.due("p0 needs no variable", x.formula(1, 0, -1, 77, -1), 1);
        check.due("p2 needs one", x.formula(1, 2, 5, -1, -1), 2);
        check.due("p7 needs two", x.formula(1, 7, 5, 0, -1), 3);
        check.due("same", x.formula(2, -1, 0, 5, -1), 4);
        check.due("not", x.formula(3, -1, -1, 0, -1), 5);
        check.due("and", x.formula(4, -1, -1, 0, 1), 6);
        check.due("or", x.formula(5, -1, -1, 0, 0), 7);
        check.due("exists", x.formula(6, 5, -1, 2, -1), 8);
        check.due("forall", x.formula(7, 0, -1, 2, -1), 9);
        check.due("closure", x.formula(8, 0, 5, 3, -1), 10);
        check.due("refused", x.formula(9, 0, 0, 0, 0), BAD);
        check.due("refused ones take no number", x.formula(0, 0, 0, 0, 0), 11);
    }

    private static void refusedLeaves() {
        ThreeValues x = new ThreeValues();
        check.due("kind -1", x.formula(-1, 0, 0, 0, 0), BAD);
        check.due("kind 9", x.formula(9, 0, 0, 0, 0), BAD);
        check.due("value 3", x.formula(0, 3, 0, 0, 0), BAD);
        check.due("value -1", x.formula(0, -1, 0, 0, 0), BAD);
        check.due("predicate 8", x.formula(1, 8, 0, 0, 0), BAD);
        check.due("predicate -1", x.formula(1, -1, 0, 0, 0), BAD);
        for (int p = 2; p < 8; p++) {
            check.due("variable 6", x.formula(1, p, 6, 0, 0), BAD);
            check.due("variable -1", x.formula(1, p, -1, 0, 0), BAD);
        }
        check.due("second variable 6", x.formula(1, 6, 0, 6, 0), BAD);
        check.due("second variable -1", x.formula(1, 7, 0, -1, 0), BAD);
        check.due("same of 6", x.formula(2, 0, 6, 0, 0), BAD);
        check.due("same of -1", x.formula(2, 0, 0, -1, 0), BAD);
        check.due("nothing was made", x.free(0), BAD);
    }

    private static void refusedParts() {
        ThreeValues x = new ThreeValues();
        check.due("not of none", x.formula(3, 0, 0, 0, 0), BAD);
        x.formula(0, 1, 0, 0, 0);
        check.due("not of itself", x.formula(3, 0, 0, 1, 0), BAD);
        check.due("not of -1", x.formula(3, 0, 0, -1, 0), BAD);
        for (int kind = 4; kind < 6; kind++) {
            check.due("first part 1", x.formula(kind, 0, 0, 1, 0), BAD);
            check.due("first part -1", x.formula(kind, 0, 0, -1, 0), BAD);
            check.due("second part 1", x.formula(kind, 0, 0, 0, 1), BAD);
            check.due("second part -1", x.formula(kind, 0, 0, 0, -1), BAD);
        }
        for (int kind = 6; kind < 9; kind++) {
            check.due("part 1", x.formula(kind, 0, 0, 1, 0), BAD);
            check.due("part -1", x.formula(kind, 0, 0, -1, 0), BAD);
            check.due("variable 6", x.formula(kind, 6, 0, 0, 0), BAD);
            check.due("variable -1", x.formula(kind, -1, 0, 0, 0), BAD);
        }
        check.due("closure to 6", x.formula(8, 0, 6, 0, 0), BAD);
        check.due("closure to -1", x.formula(8, 0, -1, 0, 0), BAD);
        check.due("nothing was made", x.free(1), BAD);
    }

    /** 0 is of depth 0, 1 of depth 1 and so on to 4 of depth 4. */
    private static void depth() {
        ThreeValues x = new ThreeValues();
        x.formula(0, 1, 0, 0, 0);
        for (int f = 1; f <= 4; f++) {
            check.due("not", x.formula(3, 0, 0, f - 1, 0), f);
        }
        check.due("not of the deepest", x.formula(3, 0, 0, 4, 0), BAD);
        for (int kind = 4; kind < 6; kind++) {
            check.due("deepest first", x.formula(kind, 0, 0, 4, 0), BAD);
            check.due("deepest second", x.formula(kind, 0, 0, 0, 4), BAD);
        }
        for (int kind = 6; kind < 9; kind++) {
            check.due("round the deepest", x.formula(kind, 0, 0, 4, 0), BAD);
        }
        check.due("of the deeper part, first", x.formula(4, 0, 0, 3, 0), 5);
        check.due("of the deeper part, second", x.formula(5, 0, 0, 0, 3), 6);
        check.due("deepest now", x.formula(3, 0, 0, 5, 0), BAD);
        check.due("deepest now", x.formula(3, 0, 0, 6, 0), BAD);
        check.due("exists to 4", x.formula(6, 0, 0, 3, 0), 7);
        check.due("deepest now", x.formula(7, 0, 0, 7, 0), BAD);
        check.due("closure to 4", x.formula(8, 0, 0, 3, 0), 8);
        check.due("deepest now", x.formula(7, 0, 0, 8, 0), BAD);
        check.due("same is of depth 0", x.formula(2, 0, 0, 0, 0), 9);
        check.due("holds is of depth 0", x.formula(1, 6, 0, 0, 0), 10);
        check.due("so 1", x.formula(4, 0, 0, 9, 10), 11);
        check.due("so 2", x.formula(4, 0, 0, 9, 11), 12);
        check.due("so 3", x.formula(4, 0, 0, 12, 9), 13);
        check.due("so 4", x.formula(5, 0, 0, 13, 9), 14);
        check.due("so not 5", x.formula(5, 0, 0, 14, 9), BAD);
    }

    private static void closureInClosure() {
        ThreeValues x = new ThreeValues();
        x.formula(1, 6, 4, 5, 0);
        check.due("closure", x.formula(8, 0, 1, 0, 0), 1);
        check.due("straight", x.formula(8, 0, 1, 1, 0), BAD);
        check.due("not of it", x.formula(3, 0, 0, 1, 0), 2);
        check.due("exists of it", x.formula(6, 0, 0, 1, 0), 3);
        check.due("and, first", x.formula(4, 0, 0, 1, 0), 4);
        check.due("or, second", x.formula(5, 0, 0, 0, 1), 5);
        check.due("forall of not", x.formula(7, 0, 0, 2, 0), 6);
        for (int f = 1; f <= 6; f++) {
            check.due("closure within", x.formula(8, 4, 5, f, 0), BAD);
        }
        check.due("two side by side", x.formula(4, 0, 0, 1, 1), 7);
        check.due("the part itself has none", x.formula(8, 2, 3, 0, 0), 8);
    }

    private static void full() {
        ThreeValues x = new ThreeValues();
        for (int f = 0; f < 40; f++) {
            check.due("up to 40", x.formula(0, f % 3, 0, 0, 0), f);
        }
        check.due("one more", x.formula(0, 1, 0, 0, 0), ThreeValues.FULL);
        check.due("not of the last", x.formula(3, 0, 0, 39, 0), ThreeValues.FULL);
        check.due("bad before full", x.formula(3, 0, 0, 40, 0), BAD);
        check.due("bad before full", x.formula(0, 3, 0, 0, 0), BAD);
        check.due("no formula 40", x.free(40), BAD);
        check.due("formula 39 is there", x.free(39), 0);
        for (int f = 0; f < 40; f++) {
            check.due("values stay", x.value(0, f, 0, 0), f % 3);
        }
    }

    private static void free() {
        ThreeValues x = new ThreeValues();
        x.formula(0, 1, 0, 0, 0);
        check.due("of a constant", x.free(0), 0);
        x.formula(1, 1, 3, 4, 0);
        check.due("of no place", x.free(1), 0);
        for (int v = 0; v < 6; v++) {
            int f = x.formula(1, 3, v, 2, 0);
            check.due("of one place", x.free(f), 1 << v);
        }
        int pair = x.formula(1, 7, 1, 4, 0);
        check.due("of two places", x.free(pair), 18);
        check.due("of twice the same", x.free(x.formula(1, 6, 3, 3, 0)), 8);
        int same = x.formula(2, 0, 0, 5, 0);
        check.due("of same", x.free(same), 33);
        check.due("of not", x.free(x.formula(3, 0, 0, pair, 0)), 18);
        check.due("of and", x.free(x.formula(4, 0, 0, pair, same)), 51);
        int or = x.formula(5, 0, 0, same, pair);
        check.due("of or", x.free(or), 51);
        check.due("exists binds", x.free(x.formula(6, 4, 0, or, 0)), 35);
        check.due("forall binds", x.free(x.formula(7, 0, 0, or, 0)), 50);
        check.due("binds what does not stand", x.free(x.formula(7, 2, 0, or, 0)), 51);
        check.due("closure binds 4, 5", x.free(x.formula(8, 2, 3, or, 0)), 15);
        check.due("closure from 4 to 5", x.free(x.formula(8, 4, 5, or, 0)), 51);
        int loop = x.formula(8, 5, 5, or, 0);
        check.due("closure from 5 to 5", x.free(loop), 35);
        check.due("exists round closure", x.free(x.formula(6, 5, 0, loop, 0)), 3);
        check.due("free -1", x.free(-1), BAD);
        check.due("free of one too many", x.free(21), BAD);
        check.due("free of the last", x.free(20), 3);
    }

    private static void connectives() {
        ThreeValues x = new ThreeValues();
        int[] not = {1, 0, 2};
        int[][] and = {{0, 0, 0}, {0, 1, 2}, {0, 2, 2}};
        int[][] or = {{0, 1, 2}, {1, 1, 1}, {2, 1, 2}};
        for (int v = 0; v < 3; v++) {
            x.formula(0, v, 0, 0, 0);
        }
        for (int v = 0; v < 3; v++) {
            check.due("constant", x.value(0, v, 9, -9), v);
            check.due("not", x.value(0, x.formula(3, 0, 0, v, 0), 0, 0), not[v]);
            for (int w = 0; w < 3; w++) {
                check.due("and", x.value(0, x.formula(4, 0, 0, v, w), 0, 0), and[v][w]);
                check.due("or", x.value(0, x.formula(5, 0, 0, v, w), 0, 0), or[v][w]);
            }
        }
    }

    private static void holdsAndSame() {
        ThreeValues x = new ThreeValues();
        x.universe(0, 3);
        x.summary(0, 2, true);
        x.put(0, 1, 0, 0, 2);
        x.put(0, 4, 2, 0, 1);
        x.put(0, 7, 1, 2, 2);
        int none = x.formula(1, 1, 0, 0, 0);
        int one = x.formula(1, 4, 1, 0, 0);
        int two = x.formula(1, 7, 0, 1, 0);
        int turned = x.formula(1, 7, 1, 0, 0);
        int same = x.formula(2, 0, 0, 1, 0);
        check.due("p1", x.value(0, none, -1, -1), 2);
        check.due("p1 of another slot", x.value(1, none, -1, -1), 0);
        check.due("p4(y)", x.value(0, one, 1, 2), 1);
        check.due("p4(y)", x.value(0, one, 2, 1), 0);
        check.due("p7(x, y)", x.value(0, two, 1, 2), 2);
        check.due("p7(x, y)", x.value(0, two, 2, 1), 0);
        check.due("p7(y, x)", x.value(0, turned, 2, 1), 2);
        check.due("same", x.value(0, same, 0, 0), 1);
        check.due("same, a summary", x.value(0, same, 2, 2), 2);
        check.due("same, two", x.value(0, same, 2, 1), 0);
    }

    private static void quantifiers() {
        ThreeValues x = new ThreeValues();
        x.formula(1, 2, 3, 0, 0);
        int exists = x.formula(6, 3, 0, 0, 0);
        int forall = x.formula(7, 3, 0, 0, 0);
        check.due("exists of none", x.value(0, exists, 0, 0), 0);
        check.due("forall of none", x.value(0, forall, 0, 0), 1);
        // The two values of p2, then what exists and forall are due to be.
        int[][] rows = {{0, 0, 0, 0}, {0, 2, 2, 0}, {2, 1, 1, 2}, {1, 1, 1, 1}, {1, 2, 1, 2}, {2, 2, 2, 2}, {0, 1, 1, 0}};
        x.universe(0, 2);
        for (int[] row : rows) {
            x.put(0, 2, 0, 0, row[0]);
            x.put(0, 2, 1, 0, row[1]);
            check.due("exists", x.value(0, exists, 0, 0), row[2]);
            check.due("forall", x.value(0, forall, 0, 0), row[3]);
        }
    }

    /** Where all are 1, none is 0, though what is beyond the last individual is nothing. */
    private static void noneBeyondTheLast() {
        for (int n = 1; n <= 6; n++) {
            ThreeValues x = new ThreeValues();
            x.universe(0, n);
            for (int u = 0; u < n; u++) {
                x.put(0, 2, u, 0, 1);
                for (int w = 0; w < n; w++) {
                    x.put(0, 6, u, w, 1);
                }
            }
            int marked = x.formula(1, 2, 2, 0, 0);
            int step = x.formula(1, 6, 4, 5, 0);
            int not = x.formula(3, 0, 0, marked, 0);
            int noStep = x.formula(3, 0, 0, step, 0);
            check.due("exists not", x.value(0, x.formula(6, 2, 0, not, 0), 0, 0), 0);
            check.due("forall", x.value(0, x.formula(7, 2, 0, marked, 0), 0, 0), 1);
            check.due("closure of not", x.value(0, x.formula(8, 0, 1, noStep, 0), 0, n - 1), 0);
            check.due("closure", x.value(0, x.formula(8, 0, 1, step, 0), n - 1, 0), 1);
        }
    }

    private static void boundVariables() {
        ThreeValues x = new ThreeValues();
        x.universe(0, 2);
        x.put(0, 2, 1, 0, 1);
        x.put(0, 3, 0, 0, 1);
        int two = x.formula(1, 2, 0, 0, 0);
        int three = x.formula(1, 3, 0, 0, 0);
        int some = x.formula(6, 0, 0, two, 0);
        int both = x.formula(4, 0, 0, some, three);
        check.due("the outer x is back behind the quantifier", x.value(0, both, 0, 0), 1);
        check.due("the outer x is back behind the quantifier", x.value(0, both, 1, 0), 0);
        int all = x.formula(7, 0, 0, two, 0);
        int either = x.formula(5, 0, 0, all, three);
        check.due("the outer x is back behind forall", x.value(0, either, 0, 0), 1);
        check.due("the outer x is back behind forall", x.value(0, either, 1, 0), 0);
        int four = x.formula(1, 2, 4, 0, 0);
        int edge = x.formula(1, 6, 4, 5, 0);
        int way = x.formula(8, 0, 1, edge, 0);
        int behind = x.formula(5, 0, 0, way, four);
        int anyFour = x.formula(6, 4, 0, behind, 0);
        check.due("variable 4 is back behind a closure", x.value(0, anyFour, 0, 0), 1);
        int onlyZero = x.formula(1, 3, 4, 0, 0);
        int zeroBehind = x.formula(5, 0, 0, way, onlyZero);
        int allFour = x.formula(7, 4, 0, zeroBehind, 0);
        check.due("variable 4 is back behind a closure", x.value(0, allFour, 0, 0), 0);
        int five = x.formula(1, 2, 5, 0, 0);
        int fiveBehind = x.formula(5, 0, 0, way, five);
        check.due("variable 5 is back behind a closure", x.value(0, x.formula(6, 5, 0, fiveBehind, 0), 0, 0), 1);
        check.due("variable 5 is back behind a closure", x.value(0, x.formula(7, 5, 0, fiveBehind, 0), 0, 0), 0);
    }

    private static void closure() {
        ThreeValues x = new ThreeValues();
        x.universe(0, 5);
        x.formula(1, 6, 4, 5, 0);
        int way = x.formula(8, 0, 1, 0, 0);
        check.due("no step, no way", x.value(0, way, 0, 0), 0);
        x.put(0, 6, 0, 1, 1);
        x.put(0, 6, 1, 2, 2);
        x.put(0, 6, 2, 3, 1);
        x.put(0, 6, 3, 0, 1);
        check.due("one step", x.value(0, way, 0, 1), 1);
        check.due("through a half", x.value(0, way, 0, 2), 2);
        check.due("beyond a half", x.value(0, way, 0, 3), 2);
        check.due("round about", x.value(0, way, 0, 0), 2);
        check.due("no way to 4", x.value(0, way, 0, 4), 0);
        check.due("no way from 4", x.value(0, way, 4, 0), 0);
        check.due("no way to itself", x.value(0, way, 4, 4), 0);
        check.due("from 2 to 1", x.value(0, way, 2, 1), 1);
        check.due("from 2 to 2", x.value(0, way, 2, 2), 2);
        x.put(0, 6, 0, 4, 1);
        x.put(0, 6, 4, 2, 1);
        check.due("a surer way beside it", x.value(0, way, 0, 2), 1);
        check.due("and all round", x.value(0, way, 0, 0), 1);
        check.due("but not from 1", x.value(0, way, 1, 1), 2);
        int loop = x.formula(8, 1, 1, 0, 0);
        check.due("y to y", x.value(0, loop, 9, 2), 1);
        int some = x.formula(6, 0, 0, loop, 0);
        check.due("the bound one is not used", x.value(0, some, 9, 1), 2);
        x.universe(1, 1);
        x.put(1, 6, 0, 0, 2);
        check.due("one step to itself", x.value(1, way, 0, 0), 2);
    }

    /** 1 is half reached at once and surely by way of 0, before or after it is left itself. */
    private static void closureSurerLater() {
        int[][] names = {{0, 1, 2, 3}, {1, 0, 2, 3}, {0, 3, 1, 2}, {3, 0, 1, 2}, {2, 1, 0, 3}, {3, 2, 1, 0}};
        for (int[] name : names) {
            ThreeValues x = new ThreeValues();
            x.universe(0, 4);
            x.formula(1, 6, 4, 5, 0);
            int way = x.formula(8, 0, 1, 0, 0);
            x.put(0, 6, name[2], name[0], 1);
            x.put(0, 6, name[2], name[1], 2);
            x.put(0, 6, name[0], name[1], 1);
            x.put(0, 6, name[1], name[3], 1);
            check.due("the surer way", x.value(0, way, name[2], name[1]), 1);
            check.due("the surer way on", x.value(0, way, name[2], name[3]), 1);
            check.due("no way back", x.value(0, way, name[3], name[2]), 0);
        }
    }

    /** The step is p6(4, 5) AND p2(0): the start of the way stands free in the step too. */
    private static void closureWithOtherVariables() {
        ThreeValues x = new ThreeValues();
        x.universe(0, 3);
        x.put(0, 6, 0, 1, 1);
        x.put(0, 6, 1, 2, 1);
        x.put(0, 2, 0, 0, 1);
        x.put(0, 2, 1, 0, 2);
        int step = x.formula(1, 6, 4, 5, 0);
        int marked = x.formula(1, 2, 0, 0, 0);
        int both = x.formula(4, 0, 0, step, marked);
        int way = x.formula(8, 0, 1, both, 0);
        check.due("marked", x.value(0, way, 0, 2), 1);
        check.due("half marked", x.value(0, way, 1, 2), 2);
        int back = x.formula(1, 6, 5, 4, 0);
        int wayBack = x.formula(8, 0, 1, back, 0);
        check.due("steps turned about", x.value(0, wayBack, 2, 0), 1);
        check.due("steps turned about", x.value(0, wayBack, 0, 2), 0);
        int fromFour = x.formula(8, 5, 4, step, 0);
        int some = x.formula(6, 4, 0, fromFour, 0);
        int all = x.formula(7, 5, 0, some, 0);
        check.due("from 5 to 4", x.value(0, all, 0, 0), 0);
        x.put(0, 6, 2, 0, 2);
        check.due("from 5 to 4", x.value(0, all, 0, 0), 2);
    }

    private static void valueRefused() {
        ThreeValues x = new ThreeValues();
        x.universe(0, 2);
        int constant = x.formula(0, 1, 0, 0, 0);
        int first = x.formula(1, 2, 0, 0, 0);
        int second = x.formula(1, 2, 1, 0, 0);
        int third = x.formula(1, 2, 2, 0, 0);
        check.due("slot 4", x.value(4, constant, 0, 0), BAD);
        check.due("slot -1", x.value(-1, constant, 0, 0), BAD);
        check.due("formula 4", x.value(0, 4, 0, 0), BAD);
        check.due("formula -1", x.value(0, -1, 0, 0), BAD);
        check.due("other variable", x.value(0, third, 0, 0), BAD);
        check.due("x 2", x.value(0, first, 2, 0), BAD);
        check.due("x -1", x.value(0, first, -1, 0), BAD);
        check.due("x only", x.value(0, first, 1, 2), 0);
        check.due("y 2", x.value(0, second, 0, 2), BAD);
        check.due("y -1", x.value(0, second, 0, -1), BAD);
        check.due("y only", x.value(0, second, 2, 1), 0);
        check.due("neither", x.value(0, constant, Integer.MIN_VALUE, Integer.MAX_VALUE), 1);
        check.due("slot without individuals", x.value(1, first, 0, 0), BAD);
    }
}
