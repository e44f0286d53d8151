/** The boundary cases of promises 12 and 13 and of the terms that they use, a test for each sentence. */
final class RuleBoundsTest {
    private static final int NO = Story.NO;
    private static final int YES = Story.YES;
    private static final int BAD = Story.BAD;
    private static final int FULL = Story.FULL;
    private static final String[] ONE = {"formula(0, 1, 0, 0, 0)"};
    private static final Check check = new Check("RuleBoundsTest");

    public static void main(String[] args) {
        ruleFormula();
        ruleVariables();
        rulePredicate();
        ruleValue();
        sixRules();
        badBeforeFull();
        coerceRange();
        coerceWithoutRules();
        coerceWithoutIndividuals();
        halfBecomes();
        otherwiseImpossible();
        onlyWhereOne();
        sameOne();
        sameZero();
        uAndWTheSame();
        wIsAny();
        asLongAs();
        asLongAsOfOne();
        asLongAsOfAllPairs();
        firstAndLast();
        sixthRule();
        impossibleAtLast();
        check.end();
    }

    private static void ruleFormula() {
        Story story = new Story(check, "rule: BAD when there is no such formula", Story.ALL_KINDS);
        story.still(BAD, "rule(#, 2, 1)", Story.outOf(0, 6));
        story.due(3, "rule(0, 2, 1)");
        story.due(4, "rule(6, 2, 1)");
        Story none = new Story(check, "rule: BAD when there is no such formula");
        none.still(BAD, "rule(#, 2, 1)", -1, 0, 1);
    }

    private static void ruleVariables() {
        Story story = new Story(check, "a formula f with no other free variables than 0 and 1", Story.ALL_KINDS);
        for (int v = 0; v < 6; v++) {
            story.make("formula(1, 2, " + v + ", 0, 0)", "formula(1, 6, " + v + ", 1, 0)", "formula(2, 0, 0, " + v + ", 0)");
        }
        for (int p = 2; p < 9; p++) {
            story.still(BAD, "rule(#, " + p + ", 0)", Story.range(13, 24));
        }
        story.due(3, "rule(7, 5, 0)");
        story.due(4, "rule(11, 5, 0)");
        story.due(5, "rule(10, 8, 1)");
        story.due(6, "rule(2, 6, 1)");
        story.still(BAD, "rule(#, 2, 0)", Story.range(13, 24));
    }

    private static void rulePredicate() {
        Story story = new Story(check, "rule: BAD when .. p is not 2 .. 8", Story.ALL_KINDS);
        story.still(BAD, "rule(0, #, 0)", Story.outOf(2, 8));
        story.still(BAD, "rule(0, #, 1)", 0, 1, 9);
        for (int p = 2; p < 9; p++) {
            Story right = new Story(check, "rule: a predicate p (2 .. 8)", Story.ALL_KINDS);
            right.due(3, "rule(0, " + p + ", 0)");
            right.due(4, "rule(0, " + p + ", 1)");
        }
    }

    private static void ruleValue() {
        Story story = new Story(check, "rule: BAD when .. c not 0 or 1", Story.ALL_KINDS);
        for (int p = 2; p < 9; p++) {
            story.still(BAD, "rule(0, " + p + ", #)", Story.outOf(0, 1));
        }
        story.due(3, "rule(0, 2, 0)");
        story.due(4, "rule(0, 2, 1)");
    }

    private static void sixRules() {
        Story story = new Story(check, "RULES are at most six", Story.ALL_KINDS);
        for (int count = 3; count <= 6; count++) {
            story.due(count, "rule(4, " + (count + 2) + ", 0)");
        }
        story.still(FULL, "rule(4, 2, 0)");
        story.still(FULL, "rule(0, 2, 1)");
        story.still(FULL, "rule(1, 3, 1)");
        story.still(FULL, "rule(3, 8, 0)");
    }

    private static void badBeforeFull() {
        Story story = new Story(check, "rule: BAD when ..; then FULL", Story.ALL_KINDS);
        story.make("rule(4, 2, 0)", "rule(4, 2, 0)", "rule(4, 2, 0)", "rule(4, 2, 0)");
        story.still(FULL, "rule(4, 2, 0)");
        story.still(BAD, "rule(#, 2, 0)", -1, 7);
        story.still(BAD, "rule(5, 2, 0)");
        story.still(BAD, "rule(4, #, 0)", 1, 9);
        story.still(BAD, "rule(4, 2, #)", -1, 2);
    }

    private static void coerceRange() {
        Story story = new Story(check, "coerce: false when there is no such slot", Story.ALL_KINDS);
        story.still(NO, "coerce(#)", Story.outOf(0, 3));
        story.due(YES, "coerce(#)", Story.range(0, 3));
    }

    private static void coerceWithoutRules() {
        Story story = new Story(check, "TO COERCE a structure: as long as there are a rule ..", "universe(0, 6)",
            "put(0, 2, 0, 0, 2)", "put(0, 6, 5, 5, 2)", "summary(0, 3, true)", "put(0, 0, 0, 0, 2)");
        story.still(YES, "coerce(#)", Story.range(0, 3));
    }

    private static void coerceWithoutIndividuals() {
        for (int p = 2; p < 9; p++) {
            for (int c = 0; c < 2; c++) {
                Story story = new Story(check, "without individuals no rule does anything", ONE);
                story.make("put(0, 0, 0, 0, 2)", "put(0, 1, 0, 0, 2)", "rule(0, " + p + ", " + c + ")",
                    "rule(0, " + p + ", " + (1 - c) + ")");
                story.still(YES, "coerce(0)");
                story.make("universe(0, 1)");
                story.still(NO, "coerce(0)");
            }
        }
    }

    private static void halfBecomes() {
        for (int p = 2; p < 8; p++) {
            for (int c = 0; c < 2; c++) {
                Story story = new Story(check, "if it is HALF, it becomes c", ONE);
                story.make("rule(0, " + p + ", " + c + ")", "universe(0, 1)", "put(0, " + p + ", 0, 0, 2)");
                story.due(YES, "coerce(0)");
                story.due(c, "get(0, " + p + ", 0, 0)");
                story.still(YES, "coerce(0)");
            }
        }
    }

    private static void otherwiseImpossible() {
        for (int p = 2; p < 8; p++) {
            for (int c = 0; c < 2; c++) {
                Story story = new Story(check, "otherwise the structure is impossible (it is as it was then)", ONE);
                story.make("rule(0, " + p + ", " + c + ")", "universe(0, 2)");
                for (int i = 0; i < 4; i++) {
                    story.make("put(0, " + p + ", " + i / 2 + ", " + i % 2 + ", 2)");
                }
                story.make("put(0, " + p + ", 1, 1, " + (1 - c) + ")");
                story.still(NO, "coerce(0)");
                story.make("put(0, " + p + ", 1, 1, " + c + ")");
                story.due(YES, "coerce(0)");
                story.due(c, "get(0, " + p + ", 0, 0)");
            }
        }
    }

    private static void onlyWhereOne() {
        for (int value = 0; value < 3; value++) {
            Story story = new Story(check, "with f's value 1", "formula(0, " + value + ", 0, 0, 0)", "rule(0, 2, 1)",
                "rule(0, 6, 0)", "universe(0, 2)", "put(0, 6, 1, 1, 1)");
            story.still(value == 1 ? NO : YES, "coerce(0)");
        }
    }

    private static void sameOne() {
        Story story = new Story(check, "for SAME: u is no summary any more, if c is 1", "formula(2, 0, 0, 1, 0)",
            "formula(1, 2, 0, 0, 0)", "formula(1, 2, 1, 0, 0)", "formula(4, 0, 0, 1, 2)", "rule(3, 8, 1)", "universe(0, 6)",
            "summary(0, 5, true)", "summary(0, 4, true)", "put(0, 2, 5, 0, 1)", "put(0, 2, 4, 0, 2)");
        story.due(YES, "coerce(0)");
        story.due(1, "get(0, 8, 5, 5)");
        story.due(2, "get(0, 8, 4, 4)");
        story.still(YES, "coerce(0)");
        story.make("put(0, 2, 0, 0, 1)");
        story.still(NO, "coerce(0)");
    }

    private static void sameZero() {
        for (int summary = 0; summary < 2; summary++) {
            Story story = new Story(check, "with c = 0 the structure is IMPOSSIBLE", "formula(1, 2, 0, 0, 0)", "rule(0, 8, 0)",
                "universe(0, 1)", "summary(0, 0, " + (summary == 1) + ")");
            story.still(YES, "coerce(0)");
            story.make("put(0, 2, 0, 0, 2)");
            story.still(YES, "coerce(0)");
            story.make("put(0, 2, 0, 0, 1)");
            story.still(NO, "coerce(0)");
        }
        Story two = new Story(check, "SAME of two is 0 already", "formula(1, 6, 0, 1, 0)", "rule(0, 8, 0)", "universe(0, 2)",
            "put(0, 6, 0, 1, 1)", "put(0, 6, 1, 0, 1)");
        two.still(YES, "coerce(0)");
    }

    private static void uAndWTheSame() {
        Story story = new Story(check, "u and w may be the same", "formula(1, 6, 0, 1, 0)", "rule(0, 7, 1)", "rule(0, 4, 0)",
            "universe(0, 2)", "put(0, 6, 1, 1, 1)", "put(0, 7, 1, 1, 2)", "put(0, 4, 1, 0, 2)", "put(0, 4, 0, 0, 2)");
        story.due(YES, "coerce(0)");
        story.due(1, "get(0, 7, 1, 1)");
        story.due(0, "get(0, 4, 1, 0)");
        story.due(2, "get(0, 4, 0, 0)");
    }

    private static void wIsAny() {
        for (int w = 0; w < 6; w++) {
            for (int u = 0; u < 6; u++) {
                Story story = new Story(check, "for p of one place, w is any individual", "formula(1, 6, 0, 1, 0)", "rule(0, 5, 1)",
                    "universe(0, 6)", "put(0, 5, " + u + ", 0, 2)", "put(0, 6, " + u + ", " + w + ", 1)");
                story.due(YES, "coerce(0)");
                story.due(1, "get(0, 5, " + u + ", 0)");
                story.make("put(0, 5, " + u + ", 0, 0)");
                story.due(NO, "coerce(0)");
            }
        }
    }

    /** p6 is closed over itself: the way through six individuals is made step by step, the last first. */
    private static void asLongAs() {
        Story story = new Story(check, "as long as there are a rule and individuals", "formula(1, 2, 1, 0, 0)",
            "formula(1, 6, 0, 1, 0)", "formula(4, 0, 0, 0, 1)", "rule(2, 2, 1)", "universe(0, 6)", "put(0, 2, 5, 0, 1)");
        for (int u = 0; u < 5; u++) {
            story.make("put(0, 2, " + u + ", 0, 2)", "put(0, 6, " + u + ", " + (u + 1) + ", 1)");
        }
        story.due(YES, "coerce(0)");
        story.due(1, "get(0, 2, #, 0)", Story.range(0, 5));
        story.make("put(0, 2, 0, 0, 0)", "put(0, 2, 1, 0, 2)", "put(0, 2, 2, 0, 2)", "put(0, 2, 3, 0, 2)", "put(0, 2, 4, 0, 2)");
        story.still(NO, "coerce(0)");
    }

    private static void firstAndLast() {
        for (int p = 2; p < 8; p++) {
            Story story = new Story(check, "for all of six individuals, the first and the last", ONE);
            story.make("rule(0, " + p + ", 1)", "universe(0, 6)");
            for (int u = 0; u < 6; u++) {
                for (int w = 0; w < (p < 6 ? 1 : 6); w++) {
                    story.make("put(0, " + p + ", " + u + ", " + w + ", 2)");
                }
            }
            story.due(YES, "coerce(0)");
            for (int u = 0; u < 6; u++) {
                for (int w = 0; w < (p < 6 ? 1 : 6); w++) {
                    story.due(1, "get(0, " + p + ", " + u + ", " + w + ")");
                }
            }
        }
    }

    private static void sixthRule() {
        Story story = new Story(check, "all of six rules count", "formula(0, 1, 0, 0, 0)", "rule(0, 2, 1)", "rule(0, 3, 0)",
            "rule(0, 4, 1)", "rule(0, 5, 0)", "rule(0, 6, 1)", "rule(0, 7, 0)", "universe(0, 1)");
        for (int p = 2; p < 8; p++) {
            story.make("put(0, " + p + ", 0, 0, 2)");
        }
        story.due(YES, "coerce(0)");
        for (int p = 2; p < 8; p++) {
            story.due(1 - p % 2, "get(0, " + p + ", 0, 0)");
        }
        for (int p = 2; p < 8; p++) {
            story.make("put(0, " + p + ", 0, 0, " + p % 2 + ")");
            story.still(NO, "coerce(0)");
            story.make("put(0, " + p + ", 0, 0, " + (1 - p % 2) + ")");
        }
    }

    /** What the first rules have done is undone when the last one is broken by it. */
    private static void impossibleAtLast() {
        Story story = new Story(check, "coerce: false when .. it is impossible (it is as it was then)", "formula(0, 1, 0, 0, 0)",
            "formula(1, 4, 0, 0, 0)", "rule(0, 2, 1)", "rule(0, 6, 0)", "rule(0, 4, 1)", "rule(0, 8, 1)", "rule(1, 5, 0)",
            "rule(1, 7, 0)", "universe(3, 1)", "summary(3, 0, true)", "put(3, 2, 0, 0, 2)", "put(3, 6, 0, 0, 2)",
            "put(3, 4, 0, 0, 2)", "put(3, 5, 0, 0, 2)", "put(3, 7, 0, 0, 1)", "put(3, 0, 0, 0, 2)");
        story.still(NO, "coerce(3)");
        story.make("put(3, 7, 0, 0, 2)");
        story.due(YES, "coerce(3)");
        story.due(1, "get(3, 8, 0, 0)");
        story.due(0, "get(3, 7, 0, 0)");
    }

    /** One individual, and each rule waits for the one after it. */
    private static void asLongAsOfOne() {
        Story story = new Story(check, "as long as there are a rule and individuals: of one individual", "formula(1, 3, 0, 0, 0)",
            "formula(1, 4, 0, 0, 0)", "formula(1, 5, 0, 0, 0)", "formula(1, 6, 0, 1, 0)", "formula(2, 0, 0, 1, 0)",
            "formula(0, 1, 0, 0, 0)", "rule(0, 2, 1)", "rule(1, 3, 1)", "rule(2, 4, 1)", "rule(3, 5, 1)", "rule(4, 6, 1)",
            "rule(5, 8, 1)", "universe(0, 1)", "summary(0, 0, true)");
        for (int p = 2; p < 7; p++) {
            story.make("put(0, " + p + ", 0, 0, 2)");
        }
        story.due(YES, "coerce(0)");
        story.due(1, "get(0, #, 0, 0)", Story.range(2, 6));
        story.due(1, "get(0, 8, 0, 0)");
        story.make("put(0, 2, 0, 0, 0)", "put(0, 3, 0, 0, 2)", "put(0, 4, 0, 0, 2)", "put(0, 5, 0, 0, 2)", "put(0, 6, 0, 0, 2)",
            "summary(0, 0, true)");
        story.still(NO, "coerce(0)");
    }

    /**
     * p7 leads from each individual to the next. p6(u, w) follows from p6(u, next of w), and p6(u, last)
     * from p6(next of u, first), which p2 and p3 tell: all 36 pairs, one after the other, the last first.
     */
    private static void asLongAsOfAllPairs() {
        Story story = new Story(check, "as long as there are a rule and individuals: through all pairs of six",
            "formula(1, 7, 1, 2, 0)", "formula(1, 6, 0, 2, 0)", "formula(4, 0, 0, 0, 1)", "formula(6, 2, 0, 2, 0)",
            "formula(1, 7, 0, 2, 0)", "formula(1, 6, 2, 3, 0)", "formula(4, 0, 0, 4, 5)", "formula(1, 2, 3, 0, 0)",
            "formula(1, 3, 1, 0, 0)", "formula(4, 0, 0, 7, 8)", "formula(4, 0, 0, 6, 9)", "formula(6, 3, 0, 10, 0)",
            "formula(6, 2, 0, 11, 0)", "rule(3, 6, 1)", "rule(12, 6, 1)", "universe(0, 6)", "put(0, 2, 0, 0, 1)", "put(0, 3, 5, 0, 1)");
        for (int i = 0; i < 36; i++) {
            story.make("put(0, 6, " + i / 6 + ", " + i % 6 + ", 2)");
        }
        for (int u = 0; u < 5; u++) {
            story.make("put(0, 7, " + u + ", " + (u + 1) + ", 1)");
        }
        story.still(YES, "coerce(0)");
        story.make("put(0, 6, 5, 5, 1)");
        story.due(YES, "coerce(0)");
        for (int u = 0; u < 6; u++) {
            story.due(1, "get(0, 6, " + u + ", #)", Story.range(0, 5));
        }
        for (int i = 0; i < 36; i++) {
            story.make("put(0, 6, " + i / 6 + ", " + i % 6 + ", " + (i == 0 ? 0 : i == 35 ? 1 : 2) + ")");
        }
        story.still(NO, "coerce(0)");
    }
}
