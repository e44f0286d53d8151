/** The boundary cases of promises 10 and 11 and of the terms that they use, a test for each sentence. */
final class ShapeBoundsTest {
    private static final int NO = Story.NO;
    private static final int YES = Story.YES;
    private static final int BAD = Story.BAD;
    private static final Check check = new Check("ShapeBoundsTest");

    public static void main(String[] args) {
        blurRange();
        blurOfNone();
        blurOfOne();
        blurOfSix();
        blurOfSixApart();
        blurTakesAllOfOnePlace();
        blurSummaryOfMany();
        blurSummaryOfAny();
        blurJoinsMembers();
        blurOrder();
        blurOfBlurred();
        embedsRange();
        embedsNone();
        embedsItself();
        embedsReachesEach();
        embedsMoreThanOnce();
        embedsSummary();
        embedsCovers();
        embedsSixInOne();
        check.end();
    }

    private static void blurRange() {
        Story story = new Story(check, "How many individuals it has then; BAD when there is no such slot.", Story.ALL_KINDS);
        story.still(BAD, "blur(#)", Story.outOf(0, 3));
        story.due(2, "blur(0)");
        story.due(1, "blur(1)");
        story.due(0, "blur(2)");
        story.due(3, "blur(3)");
    }

    private static void blurOfNone() {
        Story story = new Story(check, "TO BLUR a structure: without individuals", "put(0, 0, 0, 0, 2)", "put(0, 1, 0, 0, 1)");
        story.still(0, "blur(0)");
    }

    private static void blurOfOne() {
        for (int summary = 0; summary < 2; summary++) {
            Story story = new Story(check, "TO BLUR a structure: of one individual", "universe(0, 1)", "put(0, 4, 0, 0, 2)",
                "put(0, 6, 0, 0, 1)", "put(0, 7, 0, 0, 2)", "put(0, 1, 0, 0, 1)", "summary(0, 0, " + (summary == 1) + ")");
            story.still(1, "blur(0)");
        }
    }

    private static void blurOfSix() {
        Story story = new Story(check, "the individuals that have the same values of all predicates of one place become one: six",
            "universe(0, 6)");
        story.due(1, "blur(0)");
        story.sameAs("universe(0, 1)", "summary(0, 0, true)");
    }

    private static void blurOfSixApart() {
        Story story = new Story(check, "none become one: six that differ", "universe(0, 6)", "put(0, 5, 1, 0, 1)",
            "put(0, 5, 2, 0, 2)", "put(0, 4, 3, 0, 1)", "put(0, 3, 4, 0, 1)", "put(0, 2, 5, 0, 2)", "put(0, 6, 5, 5, 1)",
            "put(0, 7, 0, 5, 2)", "summary(0, 3, true)");
        story.still(6, "blur(0)");
    }

    /** Two that differ in one predicate of one place alone stay apart; by all else they do not. */
    private static void blurTakesAllOfOnePlace() {
        for (int p = 2; p < 6; p++) {
            for (int value = 1; value < 3; value++) {
                Story story = new Story(check, "the same values of all predicates of one place", "universe(0, 2)",
                    "put(0, " + p + ", 1, 0, " + value + ")");
                story.still(2, "blur(0)");
            }
            Story ones = new Story(check, "1 and HALF are not the same", "universe(0, 2)", "put(0, " + p + ", 0, 0, 1)",
                "put(0, " + p + ", 1, 0, 2)");
            ones.still(2, "blur(0)");
        }
        String[] others = {"summary(0, 1, true)", "put(0, 6, 1, 1, 1)", "put(0, 7, 0, 1, 2)", "put(0, 6, 1, 0, 1)"};
        for (String other : others) {
            Story story = new Story(check, "predicates of two places and summaries keep none apart", "universe(0, 2)", other);
            story.due(1, "blur(0)");
        }
    }

    private static void blurSummaryOfMany() {
        for (int n = 1; n <= 6; n++) {
            Story story = new Story(check, "which is a summary if it was more than one", "universe(0, " + n + ")");
            story.due(1, "blur(0)");
            story.due(n > 1 ? 2 : 1, "get(0, 8, 0, 0)");
        }
    }

    private static void blurSummaryOfAny() {
        for (int u = 0; u < 3; u++) {
            Story story = new Story(check, "or any of them was a summary", "universe(0, 3)", "put(0, 2, 1, 0, 1)",
                "put(0, 2, 2, 0, 2)", "summary(0, " + u + ", true)");
            story.still(3, "blur(0)");
            story.make("put(0, 2, 1, 0, 0)");
            story.due(2, "blur(0)");
            story.due(2, "get(0, 8, 0, 0)");
            story.due(u == 2 ? 2 : 1, "get(0, 8, 1, 1)");
        }
    }

    /** 0 and 3 become one, 1 and 2 another; one value of four differs, in each place in turn. */
    private static void blurJoinsMembers() {
        int[] place = {0, 1, 1, 0};
        for (int p = 6; p < 8; p++) {
            for (int u = 0; u < 4; u++) {
                for (int w = 0; w < 4; w++) {
                    Story story = new Story(check, "has for two of these the join of all values for their members",
                        "universe(0, 4)", "put(0, 3, 1, 0, 1)", "put(0, 3, 2, 0, 1)");
                    for (int i = 0; i < 16; i++) {
                        story.make("put(0, " + p + ", " + i / 4 + ", " + i % 4 + ", 1)");
                    }
                    story.make("put(0, " + p + ", " + u + ", " + w + ", 0)");
                    story.due(2, "blur(0)");
                    for (int i = 0; i < 4; i++) {
                        boolean joined = place[u] == i / 2 && place[w] == i % 2;
                        story.due(joined ? 2 : 1, "get(0, " + p + ", " + i / 2 + ", " + i % 2 + ")");
                        story.due(0, "get(0, " + (13 - p) + ", " + i / 2 + ", " + i % 2 + ")");
                    }
                }
            }
        }
    }

    /** From the least number, 0, to the greatest, 80, and neighbours that only the right weights order. */
    private static void blurOrder() {
        int[][] rows = {{80, 0}, {27, 26}, {9, 8}, {3, 2}, {54, 53}, {18, 17}, {6, 5}, {2, 1}, {1, 0}, {80, 79}};
        for (int[] row : rows) {
            Story story = new Story(check, "in the order of the numbers p2 * 27 + p3 * 9 + p4 * 3 + p5 of their values",
                "universe(0, 2)", "put(0, 6, 0, 1, 1)", "summary(0, 0, true)");
            for (int u = 0; u < 2; u++) {
                putNumber(story, u, row[u]);
            }
            story.due(2, "blur(0)");
            story.due(1, "get(0, 6, 1, 0)");
            story.due(2, "get(0, 8, 1, 1)");
            story.due(1, "get(0, 8, 0, 0)");
            for (int u = 0; u < 2; u++) {
                int number = row[1 - u];
                story.due(number / 27, "get(0, 2, " + u + ", 0)");
                story.due(number / 9 % 3, "get(0, 3, " + u + ", 0)");
                story.due(number / 3 % 3, "get(0, 4, " + u + ", 0)");
                story.due(number % 3, "get(0, 5, " + u + ", 0)");
            }
        }
    }

    private static void putNumber(Story story, int u, int number) {
        story.make("put(0, 2, " + u + ", 0, " + number / 27 + ")", "put(0, 3, " + u + ", 0, " + number / 9 % 3 + ")",
            "put(0, 4, " + u + ", 0, " + number / 3 % 3 + ")", "put(0, 5, " + u + ", 0, " + number % 3 + ")");
    }

    private static void blurOfBlurred() {
        Story story = new Story(check, "blur: what is blurred stays", "universe(0, 6)");
        for (int u = 0; u < 6; u++) {
            story.make("put(0, 4, " + u + ", 0, " + u % 3 + ")", "put(0, 6, " + u + ", " + (u + 2) % 6 + ", 1)",
                "put(0, 7, " + u + ", " + u + ", 2)");
        }
        story.due(3, "blur(0)");
        story.still(3, "blur(0)");
    }

    private static void embedsRange() {
        Story story = new Story(check, "Whether slot s is embedded in slot t; false when there is no such slot.", Story.ALL_KINDS);
        story.still(NO, "embeds(#, 0)", Story.outOf(0, 3));
        story.still(NO, "embeds(0, #)", Story.outOf(0, 3));
        story.still(NO, "embeds(#, #)", Story.outOf(0, 3));
        story.still(YES, "embeds(#, #)", Story.range(0, 3));
        story.still(NO, "embeds(0, #)", 1, 2, 3);
        story.still(NO, "embeds(#, 0)", 1, 2, 3);
    }

    private static void embedsNone() {
        Story story = new Story(check, "EMBEDDED: without individuals", "universe(1, 1)", "summary(1, 0, true)", "put(3, 0, 0, 0, 2)");
        story.still(YES, "embeds(0, 2)");
        story.still(NO, "embeds(0, 1)");
        story.still(NO, "embeds(1, 0)");
        story.still(YES, "embeds(0, 3)");
        story.still(NO, "embeds(3, 0)");
    }

    private static void embedsItself() {
        for (int n = 0; n <= 6; n++) {
            Story story = new Story(check, "EMBEDDED: every structure in itself", "universe(0, " + n + ")", "put(0, 0, 0, 0, 2)");
            for (int u = 0; u < n; u++) {
                story.make("put(0, 2, " + u + ", 0, " + u % 3 + ")", "put(0, 7, " + u + ", " + (n - 1 - u) + ", 1)",
                    "put(0, 6, " + u + ", 0, 2)", "summary(0, " + u + ", " + (u % 2 == 0) + ")");
            }
            story.still(YES, "embeds(0, 0)");
        }
    }

    private static void embedsReachesEach() {
        for (int n = 1; n <= 6; n++) {
            Story story = new Story(check, "from all individuals of s to those of t, each of t reached",
                "universe(0, " + n + ")", "universe(1, " + (n - 1) + ")", "universe(2, " + n + ")");
            for (int u = 0; u < n; u++) {
                story.make("summary(2, " + u + ", true)", "put(2, 3, " + u + ", 0, 2)");
            }
            story.still(YES, "embeds(0, 2)");
            story.still(NO, "embeds(1, 2)");
            story.make("put(2, 3, " + (n - 1) + ", 0, 1)");
            story.still(NO, "embeds(0, 2)");
            story.make("put(0, 3, 0, 0, 1)");
            story.still(YES, "embeds(0, 2)");
        }
    }

    private static void embedsMoreThanOnce() {
        for (int n = 2; n <= 6; n++) {
            Story story = new Story(check, "an individual of t that is reached more than once .. is a summary",
                "universe(0, " + n + ")", "universe(1, " + (n - 1) + ")", "universe(2, " + n + ")");
            story.still(NO, "embeds(0, 1)");
            story.still(YES, "embeds(0, 2)");
            story.make("summary(1, " + (n - 2) + ", true)");
            story.still(YES, "embeds(0, 1)");
            story.make("put(1, 5, " + (n - 2) + ", 0, 1)");
            story.still(NO, "embeds(0, 1)");
        }
    }

    private static void embedsSummary() {
        for (int n = 1; n <= 6; n++) {
            Story story = new Story(check, "reached .. by a summary is a summary",
                "universe(0, " + n + ")", "universe(1, " + n + ")", "summary(0, " + (n - 1) + ", true)");
            story.still(NO, "embeds(0, 1)");
            story.still(YES, "embeds(1, 0)");
            story.make("summary(1, 0, true)");
            story.still(YES, "embeds(0, 1)");
        }
    }

    /** One individual each, so that no other function helps. */
    private static void embedsCovers() {
        for (int p = 0; p < 8; p++) {
            for (int inner = 0; inner < 3; inner++) {
                for (int outer = 0; outer < 3; outer++) {
                    Story story = new Story(check, "every value in s (of no, one, two places) is covered by the value in t",
                        "universe(0, 1)", "universe(1, 1)", "put(0, " + p + ", 0, 0, " + inner + ")",
                        "put(1, " + p + ", 0, 0, " + outer + ")");
                    story.still(inner == outer || outer == 2 ? YES : NO, "embeds(0, 1)");
                }
            }
        }
    }

    /** The pair that spoils it is each of the 36 in turn. */
    private static void embedsSixInOne() {
        for (int p = 6; p < 8; p++) {
            for (int u = 0; u < 6; u++) {
                Story story = new Story(check, "at the places where it leads: six in one", "universe(0, 6)", "universe(1, 1)",
                    "summary(1, 0, true)");
                for (int w = 0; w < 6; w++) {
                    story.due(YES, "embeds(0, 1)");
                    story.make("put(0, " + p + ", " + u + ", " + w + ", 1)");
                    story.due(NO, "embeds(0, 1)");
                    story.make("put(1, " + p + ", 0, 0, 2)");
                    story.due(YES, "embeds(0, 1)");
                    story.make("put(0, " + p + ", " + u + ", " + w + ", 0)", "put(1, " + p + ", 0, 0, 0)");
                }
            }
        }
    }
}
