/** The boundary cases of promises 1 to 6 and of the terms that they use, a test for each sentence. */
final class StoreBoundsTest {
    private static final int NO = Story.NO;
    private static final int YES = Story.YES;
    private static final int BAD = Story.BAD;
    private static final Check check = new Check("StoreBoundsTest");

    public static void main(String[] args) {
        slotsAtFirst();
        nothingMade();
        nothingStarted();
        emptyPile();
        constants();
        lastCall();
        universeRange();
        universeAnew();
        noPlaceStays();
        summaryRange();
        summaryTwice();
        putRange();
        putNeeds();
        putWithoutIndividuals();
        getRange();
        getNeeds();
        sameValues();
        sizeRange();
        check.end();
    }

    private static void slotsAtFirst() {
        Story story = new Story(check, "SLOTS 0 .. 3 have structures, at first without individuals, all values 0.");
        story.still(0, "size(#)", Story.range(0, 3));
        for (int p = 0; p < 2; p++) {
            story.still(0, "get(#, " + p + ", 0, 0)", Story.range(0, 3));
        }
        for (int p = 2; p < 9; p++) {
            story.still(BAD, "get(#, " + p + ", 0, 0)", Story.range(0, 3));
        }
        for (int s = 0; s < 4; s++) {
            Story six = new Story(check, "all values 0, also of individuals that come", "universe(" + s + ", 6)");
            for (int p = 2; p < 8; p++) {
                six.due(0, "get(" + s + ", " + p + ", #, 0)", Story.range(0, 5));
                six.due(0, "get(" + s + ", " + p + ", 5, #)", Story.range(0, 5));
            }
        }
    }

    private static void nothingMade() {
        Story story = new Story(check, "no formulas, rules, edges");
        story.still(BAD, "free(#)", 0, 1, 39);
        story.still(BAD, "value(0, 0, 0, 0)");
        story.still(BAD, "rule(0, 2, 1)");
        story.still(BAD, "edge(0, 0, 15, 0)");
        story.still(BAD, "change(0, 0, 0)");
        story.still(BAD, "apply(#, 0)", 0, 7);
        story.due(YES, "coerce(#)", Story.range(0, 3));
        story.due(0, "formula(0, 1, 0, 0, 0)");
        story.due(1, "rule(0, 2, 1)");
        story.due(0, "edge(0, 0, 15, 0)");
        story.due(1, "change(0, 0, 0)");
    }

    private static void nothingStarted() {
        Story story = new Story(check, "nothing is started", "formula(0, 1, 0, 0, 0)", "edge(0, 1, 15, 0)");
        story.still(0, "recorded(#)", Story.range(0, 3));
        story.still(NO, "show(#, 0, 0)", Story.range(0, 3));
        story.still(BAD, "known(#, 0)", Story.range(0, 3));
        story.still(0, "run()");
        story.due(1, "start(#, 0)", Story.range(0, 3));
    }

    private static void emptyPile() {
        Story story = new Story(check, "the pile is empty");
        story.still(NO, "pile(#, 0)", 0, 1, 39);
    }

    private static void constants() {
        check.due("BAD", ThreeValues.BAD, -1);
        check.due("FULL", ThreeValues.FULL, -2);
        check.due("UNKNOWN", ThreeValues.UNKNOWN, -3);
    }

    /** Each object has 512 calls; the last of them answers like any other. */
    private static void lastCall() {
        String[] lasts = {"universe(0, 6)", "formula(0, 1, 0, 0, 0)", "apply(0, 0)", "start(3, 0)", "run()", "pile(0, 3)"};
        int[] dues = {1, 2, 1, 1, 4, 1};
        for (int i = 0; i < lasts.length; i++) {
            Story story = new Story(check, "An object is used for at most 512 calls after it has been made",
                "formula(0, 1, 0, 0, 0)", "formula(1, 5, 0, 0, 0)", "edge(0, 0, 271, 0)", "change(0, 2, 1)",
                "start(0, 0)", "apply(0, 0)");
            for (int n = 6; n < 511; n += 5) {
                story.make("universe(1, 6)", "put(1, 7, 5, 5, 2)", "start(0, 0)", "run()", "apply(0, 0)");
            }
            story.due(dues[i], lasts[i]);
        }
    }

    private static void universeRange() {
        Story story = new Story(check, "False when there is no such slot or n is not 0 .. 6.", Story.ALL_KINDS);
        story.still(NO, "universe(#, 0)", Story.outOf(0, 3));
        story.still(NO, "universe(#, 6)", Story.outOf(0, 3));
        for (int s = 0; s < 4; s++) {
            story.still(NO, "universe(" + s + ", #)", Story.outOf(0, 6));
        }
        story.still(NO, "universe(4, 7)");
        for (int s = 0; s < 4; s++) {
            for (int n = 0; n <= 6; n++) {
                story.due(YES, "universe(" + s + ", " + n + ")");
                story.due(n, "size(" + s + ")");
            }
            story.still(NO, "universe(" + s + ", 7)");
        }
    }

    /** Filled with 1 and HALF everywhere, then set anew with as many, with more and with fewer. */
    private static void universeAnew() {
        for (int before : new int[] {1, 3, 6}) {
            for (int n : new int[] {0, 1, 3, 6}) {
                Story story = new Story(check, "Slot s gets n individuals anew, no summaries, all values of one and two places 0");
                fill(story, 2, before);
                story.make("universe(2, " + n + ")");
                story.sameAs("universe(2, " + n + ")", "put(2, 0, 0, 0, 1)", "put(2, 1, 0, 0, 2)");
                story.make("universe(2, 6)");
                story.sameAs("universe(2, 6)", "put(2, 0, 0, 0, 1)", "put(2, 1, 0, 0, 2)");
            }
        }
    }

    private static void fill(Story story, int s, int n) {
        story.make("universe(" + s + ", " + n + ")", "put(" + s + ", 0, 0, 0, 1)", "put(" + s + ", 1, 0, 0, 2)");
        for (int u = 0; u < n; u++) {
            story.make("summary(" + s + ", " + u + ", true)");
            for (int p = 2; p < 8; p++) {
                for (int w = 0; w < (p < 6 ? 1 : n); w++) {
                    story.make("put(" + s + ", " + p + ", " + u + ", " + w + ", " + (1 + (p + u + w) % 2) + ")");
                }
            }
        }
    }

    private static void noPlaceStays() {
        Story story = new Story(check, "Predicates of no place stay when the individuals are set anew.");
        for (int value = 2; value >= 0; value--) {
            for (int n : new int[] {6, 0, 1}) {
                story.make("put(3, 0, 0, 0, " + value + ")", "put(3, 1, 0, 0, " + (2 - value) + ")", "universe(3, " + n + ")");
                story.due(value, "get(3, 0, 0, 0)");
                story.due(2 - value, "get(3, 1, 0, 0)");
            }
        }
        story.still(0, "get(2, #, 0, 0)", 0, 1);
    }

    private static void summaryRange() {
        Story story = new Story(check, "summary: False when there is no such slot or individual.", Story.ALL_KINDS);
        for (String on : new String[] {"true", "false"}) {
            story.still(NO, "summary(#, 0, " + on + ")", Story.outOf(0, 3));
            int[] sizes = {2, 1, 0, 3};
            for (int s = 0; s < 4; s++) {
                story.still(NO, "summary(" + s + ", #, " + on + ")", Story.outOf(0, sizes[s] - 1));
            }
        }
        for (int n = 1; n <= 6; n++) {
            story.make("universe(1, " + n + ")");
            story.due(YES, "summary(1, #, true)", 0, n - 1);
            story.due(2, "get(1, 8, #, #)", 0, n - 1);
            story.still(NO, "summary(1, #, true)", -1, n);
        }
        story.make("universe(1, 0)");
        story.still(NO, "summary(1, #, true)", -1, 0);
    }

    private static void summaryTwice() {
        Story story = new Story(check, "Individual u of slot s is a summary, or not.", "universe(0, 3)", "put(0, 2, 1, 0, 2)");
        story.still(YES, "summary(0, #, false)", Story.range(0, 2));
        story.due(YES, "summary(0, 1, true)");
        story.still(YES, "summary(0, 1, true)");
        story.still(2, "get(0, 8, 1, 1)");
        story.still(1, "get(0, 8, #, #)", 0, 2);
        story.due(YES, "summary(0, 1, false)");
        story.sameAs("universe(0, 3)", "put(0, 2, 1, 0, 2)");
    }

    private static void putRange() {
        String sentence = "put: False when there is no such slot, predicate, individual (that is needed), or value is not 0 .. 2.";
        Story story = new Story(check, sentence, Story.ALL_KINDS);
        for (int p : new int[] {0, 2, 6}) {
            story.still(NO, "put(#, " + p + ", 0, 0, 1)", Story.outOf(0, 3));
            story.still(NO, "put(3, " + p + ", 1, 1, #)", Story.outOf(0, 2));
        }
        story.still(NO, "put(3, #, 0, 0, 1)", Story.outOf(0, 7));
        story.still(NO, "put(3, 8, #, 0, 2)", 0, 2);
        for (int p = 0; p < 8; p++) {
            for (int value = 0; value < 3; value++) {
                story.due(YES, "put(3, " + p + ", 2, 1, " + value + ")");
                story.due(value, "get(3, " + p + ", 2, 1)");
            }
        }
    }

    private static void putNeeds() {
        for (int n : new int[] {1, 3, 6}) {
            Story story = new Story(check, "put: for u (and w, as far as needed)", Story.ALL_KINDS);
            story.make("universe(1, " + n + ")");
            for (int p = 0; p < 8; p++) {
                if (p >= 2) {
                    story.still(NO, "put(1, " + p + ", #, 0, 1)", -1, n, Integer.MIN_VALUE, Integer.MAX_VALUE);
                } else {
                    story.due(YES, "put(1, " + p + ", #, #, 1)", -1, n, Integer.MIN_VALUE, Integer.MAX_VALUE);
                }
                if (p >= 6) {
                    story.still(NO, "put(1, " + p + ", 0, #, 1)", -1, n, Integer.MIN_VALUE, Integer.MAX_VALUE);
                } else {
                    story.due(YES, "put(1, " + p + ", 0, #, 1)", -1, n, Integer.MIN_VALUE, Integer.MAX_VALUE);
                }
                story.due(YES, "put(1, " + p + ", #, #, 2)", 0, n - 1);
                story.due(2, "get(1, " + p + ", #, #)", 0, n - 1);
            }
        }
    }

    private static void putWithoutIndividuals() {
        Story story = new Story(check, "put: no such individual where there are none", Story.ALL_KINDS);
        for (int p = 2; p < 8; p++) {
            story.still(NO, "put(2, " + p + ", #, 0, 1)", -1, 0, 1);
        }
        story.due(YES, "put(2, #, 0, 0, 2)", 0, 1);
        story.due(2, "get(2, #, 0, 0)", 0, 1);
    }

    private static void getRange() {
        String sentence = "get: BAD when there is no such slot, predicate or individual.";
        Story story = new Story(check, sentence, Story.ALL_KINDS);
        for (int p : new int[] {0, 2, 6, 8}) {
            story.still(BAD, "get(#, " + p + ", 0, 0)", Story.outOf(0, 3));
        }
        story.still(BAD, "get(3, #, 0, 0)", Story.outOf(0, 8));
        story.still(2, "get(0, 1, 0, 0)");
        story.still(2, "get(0, 2, 1, 0)");
        story.still(2, "get(0, 7, 0, 1)");
        story.still(2, "get(0, 8, 1, 1)");
        story.still(1, "get(0, 6, 0, 1)");
    }

    private static void getNeeds() {
        for (int n : new int[] {0, 1, 3, 6}) {
            Story story = new Story(check, "get: The value of predicate p (0 .. 8), likewise");
            story.make("universe(1, " + n + ")", "put(1, 0, 0, 0, 2)", "put(1, 1, 0, 0, 2)");
            for (int u = 0; u < n; u++) {
                story.make("summary(1, " + u + ", true)", "put(1, 2, " + u + ", 0, 2)");
            }
            story.still(2, "get(1, 0, #, #)", -1, 0, n, Integer.MIN_VALUE, Integer.MAX_VALUE);
            story.still(2, "get(1, 1, #, #)", -1, 0, n, Integer.MIN_VALUE, Integer.MAX_VALUE);
            for (int p = 2; p < 9; p++) {
                story.still(BAD, "get(1, " + p + ", #, 0)", -1, n, Integer.MIN_VALUE, Integer.MAX_VALUE);
            }
            if (n > 0) {
                story.still(2, "get(1, 2, 0, #)", -1, n, Integer.MIN_VALUE, Integer.MAX_VALUE);
                story.still(2, "get(1, 2, #, 0)", 0, n - 1);
                for (int p = 6; p < 9; p++) {
                    story.still(BAD, "get(1, " + p + ", 0, #)", -1, n, Integer.MIN_VALUE, Integer.MAX_VALUE);
                    story.still(p == 8 ? 2 : 0, "get(1, " + p + ", #, #)", 0, n - 1);
                }
            }
        }
    }

    private static void sameValues() {
        Story story = new Story(check, "SAME (predicate 8) of u and v is 0 if they are different, 1 if they are one "
            + "that is no summary, HALF if one that is.", "universe(0, 6)", "summary(0, 0, true)", "summary(0, 5, true)");
        for (int u = 0; u < 6; u++) {
            for (int w = 0; w < 6; w++) {
                int due = u != w ? 0 : u == 0 || u == 5 ? 2 : 1;
                story.due(due, "get(0, 8, " + u + ", " + w + ")");
            }
        }
    }

    private static void sizeRange() {
        Story story = new Story(check, "How many individuals slot s has; BAD when there is no such slot.", Story.ALL_KINDS);
        story.still(BAD, "size(#)", Story.outOf(0, 3));
        story.still(2, "size(0)");
        story.still(1, "size(1)");
        story.still(0, "size(2)");
        story.still(3, "size(3)");
    }
}
