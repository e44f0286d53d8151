/** The boundary cases of promises 14 to 17 and of the terms that they use, a test for each sentence. */
final class EdgeBoundsTest {
    private static final int NO = Story.NO;
    private static final int YES = Story.YES;
    private static final int BAD = Story.BAD;
    private static final int FULL = Story.FULL;
    private static final int UNKNOWN = Story.UNKNOWN;
    /** Formula 0 is 1, formula 1 is 0, formula 2 is HALF. */
    private static final String[] VALUES = {"formula(0, 1, 0, 0, 0)", "formula(0, 0, 0, 0, 0)", "formula(0, 2, 0, 0, 0)"};
    private static final Check check = new Check("EdgeBoundsTest");

    public static void main(String[] args) {
        edgePoints();
        edgeFocus();
        edgeAlong();
        edgeAlongUnseen();
        edgeCreate();
        edgeCreateApplied();
        edgeFormula();
        edgeVariables();
        eightEdges();
        edgeBadBeforeFull();
        changeEdge();
        changePredicate();
        changeFormula();
        changeVariables();
        fourChanges();
        changeBadBeforeFull();
        applyRange();
        slotStays();
        nothingToFocus();
        leastFirst();
        focusOfAll();
        noPivot();
        noPivotOfSix();
        leastPivot();
        manyOutOfFocusing();
        manyAlongOne();
        alikeOutOfFocusing();
        sixBySplit();
        allOfTheSplitOne();
        sevenBySplit();
        sixByCreate();
        sevenByCreate();
        sevenBySplitAndCreate();
        sevenThoughImpossible();
        preconditionValues();
        createdOne();
        lastChangeCounts();
        changesWithoutIndividuals();
        changesOfAllRows();
        impossibleAreGone();
        pileInOrder();
        pileRange();
        pileOfNone();
        pileCopies();
        pileStays();
        nothingLeftOver();
        check.end();
    }

    private static Story rich(String sentence) {
        return new Story(check, sentence, Story.ALL_KINDS);
    }

    private static Story small(String sentence, String... calls) {
        return new Story(check, sentence, Story.with(VALUES, calls));
    }

    private static void edgePoints() {
        Story story = rich("edge: BAD when there is no such point");
        story.still(BAD, "edge(#, 0, 15, 0)", Story.outOf(0, 3));
        story.still(BAD, "edge(0, #, 15, 0)", Story.outOf(0, 3));
        story.still(BAD, "edge(#, #, 15, 0)", Story.outOf(0, 3));
        for (int point = 0; point < 4; point++) {
            story.due(3 + point, "edge(" + point + ", " + (3 - point) + ", 15, 0)");
        }
        Story same = rich("from a POINT 0 .. 3 to another (or the same) one");
        for (int point = 0; point < 4; point++) {
            same.due(3 + point, "edge(" + point + ", " + point + ", 15, 0)");
        }
    }

    private static void edgeFocus() {
        Story story = rich("p the predicate that is focused on (2 .. 7, or 15: none)");
        for (int create = 0; create < 2; create++) {
            int rest = 16 * 3 + 256 * create;
            story.still(BAD, "edge(0, 0, #, 0)", rest, rest + 1, rest + 8, rest + 9, rest + 10, rest + 11, rest + 12,
                rest + 13, rest + 14);
            Story right = rich("edge: p is 2 .. 7 or 15");
            for (int p = 3; p < 8; p++) {
                right.due(p, "edge(0, 0, " + (p - 1 + rest) + ", 0)");
            }
            Story ends = rich("edge: p is 2 .. 7 or 15");
            ends.due(3, "edge(0, 0, " + (7 + rest) + ", 0)");
            ends.due(4, "edge(0, 0, " + (15 + rest) + ", 0)");
        }
    }

    private static void edgeAlong() {
        for (int p = 6; p < 8; p++) {
            for (int create = 0; create < 2; create++) {
                Story story = rich("q (2 .. 5) along which it is");
                for (int q = 0; q < 16; q++) {
                    int what = p + 16 * q + 256 * create;
                    if (q < 2 || q > 5) {
                        story.still(BAD, "edge(0, 0, " + what + ", 0)");
                    } else {
                        story.due(1 + q, "edge(0, 0, " + what + ", 0)");
                    }
                }
            }
        }
    }

    private static void edgeAlongUnseen() {
        for (int p : new int[] {2, 3, 4, 5, 15}) {
            for (int from = 0; from < 16; from += 4) {
                Story story = rich("q is looked at only with p = 6, 7");
                for (int i = 0; i < 4; i++) {
                    story.due(3 + i, "edge(0, 0, " + (p + 16 * (from + i) + 256 * (i % 2)) + ", 0)");
                }
            }
        }
        Story story = small("q is looked at only with p = 6, 7", "edge(0, 0, 242, 0)", "universe(0, 1)", "put(0, 2, 0, 0, 2)");
        story.due(2, "apply(0, 0)");
    }

    private static void edgeCreate() {
        Story story = rich("create 0 or 1");
        story.still(BAD, "edge(0, 0, #, 0)", 15 + 512, 15 + 768, 2 + 512, 38 + 512, 511 + 1, 15 - 256, 2 - 256, 38 - 256, -1,
            -241, 15 + 65536, Integer.MAX_VALUE, Integer.MIN_VALUE, Integer.MIN_VALUE + 15, Integer.MAX_VALUE - 496);
        story.due(3, "edge(0, 0, 2, 0)");
        story.due(4, "edge(0, 0, 511, 0)");
        story.due(5, "edge(0, 0, 255, 0)");
        story.due(6, "edge(0, 0, 258, 0)");
    }

    /** The last number without create is 255, the first with it that is told is 258. */
    private static void edgeCreateApplied() {
        Story story = small("p + 16 * q + 256 * create", "edge(0, 0, 255, 0)", "edge(0, 0, 258, 0)", "edge(0, 0, 511, 0)",
            "edge(0, 0, 271, 0)", "edge(0, 0, 245, 0)", "universe(0, 2)");
        int[] sizes = {2, 3, 3, 3, 2};
        for (int e = 0; e < sizes.length; e++) {
            story.due(1, "apply(" + e + ", 0)");
            story.make("pile(0, 1)");
            story.due(sizes[e], "size(1)");
        }
    }

    private static void edgeFormula() {
        Story story = rich("edge: BAD when .. there is no such formula");
        story.still(BAD, "edge(0, 0, 15, #)", Story.outOf(0, 6));
        story.due(3, "edge(0, 0, 15, 0)");
        story.due(4, "edge(0, 0, 15, 6)");
        Story none = new Story(check, "edge: BAD when .. there is no such formula");
        none.still(BAD, "edge(0, 0, 15, #)", -1, 0, 1);
    }

    private static void edgeVariables() {
        Story story = rich("edge: BAD when .. it has free variables");
        for (int v = 0; v < 6; v++) {
            story.make("formula(1, 2, " + v + ", 0, 0)", "formula(6, " + v + ", 0, " + (7 + 2 * v) + ", 0)");
        }
        story.still(BAD, "edge(0, 0, 15, #)", 7, 9, 11, 13, 15, 17);
        for (int e = 3; e < 8; e++) {
            story.due(e, "edge(0, 0, 15, " + (2 * e + 2) + ")");
        }
    }

    private static void eightEdges() {
        Story story = rich("EDGES are at most eight");
        for (int e = 3; e < 8; e++) {
            story.due(e, "edge(3, 2, 15, 4)");
        }
        story.still(FULL, "edge(3, 2, 15, 4)");
        story.still(FULL, "edge(0, 0, 2, 0)");
        story.still(FULL, "edge(1, 1, 511, 2)");
        story.still(BAD, "apply(8, 0)");
        story.still(BAD, "change(8, 0, 0)");
        story.due(0, "apply(7, 0)");
        story.due(1, "change(7, 0, 0)");
    }

    private static void edgeBadBeforeFull() {
        Story story = rich("edge: BAD when ..; then FULL");
        for (int e = 3; e < 8; e++) {
            story.make("edge(0, 0, 15, 0)");
        }
        story.still(FULL, "edge(0, 0, 15, 0)");
        story.still(BAD, "edge(#, 0, 15, 0)", -1, 4);
        story.still(BAD, "edge(0, #, 15, 0)", -1, 4);
        story.still(BAD, "edge(0, 0, #, 0)", -1, 0, 1, 6, 22, 102, 8, 14, 512);
        story.still(BAD, "edge(0, 0, 15, #)", -1, 7, 1, 3, 5);
    }

    private static void changeEdge() {
        Story story = rich("change: BAD when there is no such edge");
        story.still(BAD, "change(#, 0, 0)", Story.outOf(0, 2));
        story.due(3, "change(0, 2, 0)");
        story.due(2, "change(1, 2, 0)");
        story.due(1, "change(2, 2, 0)");
        Story none = new Story(check, "change: BAD when there is no such edge", VALUES);
        none.still(BAD, "change(#, 0, 0)", -1, 0, 1);
    }

    private static void changePredicate() {
        Story story = rich("change: BAD when there is no such .. predicate");
        story.still(BAD, "change(2, #, 0)", Story.outOf(0, 7));
        for (int p = 0; p < 8; p++) {
            Story right = rich("each a predicate (0 .. 7)");
            right.due(1, "change(2, " + p + ", 0)");
        }
    }

    private static void changeFormula() {
        for (int p : new int[] {0, 2, 6}) {
            Story story = rich("change: BAD when there is no such .. formula");
            story.still(BAD, "change(2, " + p + ", #)", Story.outOf(0, 6));
            story.due(1, "change(2, " + p + ", 0)");
            story.due(2, "change(2, " + p + ", 6)");
        }
    }

    /** Formulas 7 .. 12 have variables 0 .. 5 free, 13 has 0 and 1, 14 has 0 and 2, 15 has 1 and 5. */
    private static void changeVariables() {
        for (int p = 0; p < 8; p++) {
            Story story = rich("free variables are at most 0 (one place), or 0 and 1 (two places); of no place it has none");
            for (int v = 0; v < 6; v++) {
                story.make("formula(1, 2, " + v + ", 0, 0)");
            }
            story.make("formula(1, 6, 0, 1, 0)", "formula(1, 6, 0, 2, 0)", "formula(1, 6, 1, 5, 0)");
            int allowed = p < 2 ? 0 : p < 6 ? 1 : 3;
            int[] free = {1, 2, 4, 8, 16, 32, 3, 5, 34};
            int made = 0;
            for (int f = 0; f < free.length; f++) {
                if ((free[f] & ~allowed) == 0) {
                    made++;
                    story.due(made, "change(2, " + p + ", " + (7 + f) + ")");
                } else {
                    story.still(BAD, "change(2, " + p + ", " + (7 + f) + ")");
                }
            }
            story.due(made + 1, "change(2, " + p + ", 0)");
        }
    }

    private static void fourChanges() {
        Story story = rich("at most four CHANGES");
        for (int count = 3; count <= 4; count++) {
            story.due(count, "change(0, " + count + ", 4)");
        }
        for (int p = 0; p < 8; p++) {
            story.still(FULL, "change(0, " + p + ", 0)");
        }
        story.still(FULL, "change(0, 4, 1)");
        story.due(2, "change(1, 3, 0)");
        story.due(1, "change(2, 7, 3)");
    }

    private static void changeBadBeforeFull() {
        Story story = rich("change: BAD when ..; then FULL");
        story.make("change(0, 0, 0)", "change(0, 0, 0)");
        story.still(FULL, "change(0, 0, 0)");
        story.still(BAD, "change(#, 0, 0)", -1, 3);
        story.still(BAD, "change(0, #, 0)", -1, 8);
        story.still(BAD, "change(0, 0, #)", -1, 7, 1, 3, 5);
        story.still(BAD, "change(0, 2, #)", 3, 5);
        story.still(BAD, "change(0, 6, #)", 5, 7);
    }

    private static void applyRange() {
        Story story = rich("apply: BAD when there is no such edge or slot");
        story.still(BAD, "apply(#, 0)", Story.outOf(0, 2));
        story.still(BAD, "apply(0, #)", Story.outOf(0, 3));
        story.still(BAD, "apply(3, 4)");
        story.due(1, "apply(0, #)", 1, 2, 3);
        story.due(0, "apply(2, 0)");
        Story none = new Story(check, "apply: BAD when there is no such edge", VALUES);
        none.still(BAD, "apply(#, 0)", -1, 0, 1);
    }

    /** The edge focuses, splits, creates and changes, the rule sharpens: all in copies. */
    private static void slotStays() {
        String[] calls = Story.with(VALUES, "edge(0, 0, 258, 0)", "change(0, 0, 0)", "change(0, 3, 0)", "change(0, 6, 0)",
            "rule(0, 4, 0)", "universe(1, 2)", "summary(1, 0, true)", "put(1, 2, 0, 0, 2)", "put(1, 4, 1, 0, 2)",
            "put(1, 5, 0, 0, 1)");
        Story story = new Story(check, "Applies edge e to slot s (which stays)", calls);
        story.due(3, "apply(0, 1)");
        story.make("edge(0, 0, 15, 1)");
        story.due(0, "apply(1, 1)");
        story.sameAs(Story.with(calls, "edge(0, 0, 15, 1)"));
    }

    private static void nothingToFocus() {
        for (int p = 2; p < 8; p++) {
            Story story = small("a structure in which some p(u) is HALF: none is", "edge(0, 0, " + (p + 16 * 2) + ", 0)");
            story.due(1, "apply(0, 0)");
            story.make("universe(0, 6)", "put(0, 2, 0, 0, 1)");
            for (int u = 0; u < 6; u++) {
                story.make("summary(0, " + u + ", " + (u > 0) + ")", "put(0, 6, 1, " + u + ", 2)", "put(0, 7, 1, " + u + ", 2)");
                for (int q = 3; q < 6; q++) {
                    story.make("put(0, " + q + ", " + u + ", 0, " + (q == p ? u % 2 : 2) + ")");
                }
            }
            story.due(1, "apply(0, 0)");
            story.make("pile(0, 1)");
            story.due(YES, "embeds(0, 1)");
            story.due(YES, "embeds(1, 0)");
        }
    }

    /** Both are split in the last one: the new ones come in the order of those that were split. */
    private static void leastFirst() {
        Story story = small("u the least such", "edge(0, 0, 2, 0)", "universe(0, 2)", "summary(0, 0, true)", "summary(0, 1, true)",
            "put(0, 2, 0, 0, 2)", "put(0, 2, 1, 0, 2)", "put(0, 3, 0, 0, 2)", "put(0, 3, 1, 0, 1)");
        story.due(9, "apply(0, 0)");
        story.make("pile(8, 1)");
        story.due(4, "size(1)");
        story.due(2, "get(1, 3, 2, 0)");
        story.due(1, "get(1, 3, 3, 0)");
        story.still(NO, "pile(9, 1)");
        Story two = small("w the least with p(u, w) HALF", "edge(0, 0, 39, 0)", "universe(0, 3)", "put(0, 2, 1, 0, 1)",
            "summary(0, 0, true)", "summary(0, 2, true)", "put(0, 7, 1, 0, 2)", "put(0, 7, 1, 2, 2)", "put(0, 3, 0, 0, 2)",
            "put(0, 3, 2, 0, 1)");
        two.due(9, "apply(0, 0)");
        two.make("pile(8, 1)");
        two.due(5, "size(1)");
        two.due(2, "get(1, 3, 3, 0)");
        two.due(1, "get(1, 3, 4, 0)");
        two.due(1, "get(1, 7, 1, #)", 3, 4);
        two.due(0, "get(1, 7, 1, #)", 0, 2);
    }

    /** The first and the last individual are looked at. */
    private static void focusOfAll() {
        for (int p = 2; p < 8; p++) {
            for (int u : new int[] {0, 5}) {
                Story story = small("and so on with these: the first and the last of six", "edge(0, 0, " + (p + 16 * 5) + ", 0)",
                    "universe(0, 6)", "put(0, 5, 2, 0, 1)");
                story.make(p < 6 ? "put(0, " + p + ", " + u + ", 0, 2)" : "put(0, " + p + ", 2, " + u + ", 2)");
                story.due(2, "apply(0, 0)");
                for (int i = 0; i < 2; i++) {
                    story.make("pile(" + i + ", 1)");
                    story.due(i, p < 6 ? "get(1, " + p + ", " + u + ", 0)" : "get(1, " + p + ", 2, " + u + ")");
                }
            }
        }
    }

    private static void noPivot() {
        for (int q = 2; q < 6; q++) {
            for (int p = 6; p < 8; p++) {
                Story story = small("if there is none, nothing is to be done", "edge(0, 0, " + (p + 16 * q) + ", 0)");
                story.due(1, "apply(0, 0)");
                story.make("universe(0, 2)", "put(0, " + q + ", 0, 0, 2)", "put(0, " + q + ", 1, 0, 1)", "summary(0, 1, true)",
                    "put(0, " + p + ", 0, 0, 2)", "put(0, " + p + ", 1, 1, 2)", "put(0, " + p + ", 1, 0, 2)");
                story.due(1, "apply(0, 0)");
                story.make("pile(0, 1)");
                story.due(2, "get(1, " + p + ", #, #)", 0, 1);
                story.make("summary(0, 1, false)");
                story.due(4, "apply(0, 0)");
            }
        }
    }

    /** All values are 1 or HALF, but q is 1 of none of six: nothing else is taken for an individual with q. */
    private static void noPivotOfSix() {
        for (int q = 2; q < 6; q++) {
            for (int p = 6; p < 8; p++) {
                Story story = small("if there is none, nothing is to be done: of six", "edge(0, 0, " + (p + 16 * q) + ", 0)",
                    "universe(0, 6)");
                for (int u = 0; u < 6; u++) {
                    for (int other = 2; other < 6; other++) {
                        story.make("put(0, " + other + ", " + u + ", 0, 2)");
                    }
                    for (int w = 0; w < 6; w++) {
                        story.make("put(0, 6, " + u + ", " + w + ", " + (u + w == 0 ? 2 : 1) + ")",
                            "put(0, 7, " + u + ", " + w + ", 1)");
                    }
                }
                story.due(1, "apply(0, 0)");
                story.make("pile(0, 1)");
                story.due(YES, "embeds(0, 1)");
                story.due(YES, "embeds(1, 0)");
            }
        }
    }

    private static void leastPivot() {
        for (int u = 0; u < 6; u++) {
            Story story = small("with u the least individual with q(u) = 1 that is no summary", "edge(0, 0, 70, 0)",
                "universe(0, 6)");
            for (int v = u; v < 6; v++) {
                story.make("put(0, 4, " + v + ", 0, 1)");
            }
            for (int v = 0; v < 6; v++) {
                story.make("put(0, 6, " + v + ", " + (5 - v) + ", 2)");
            }
            story.due(2, "apply(0, 0)");
            story.make("pile(0, 1)");
            for (int v = 0; v < 6; v++) {
                story.due(v == u ? 0 : 2, "get(1, 6, " + v + ", " + (5 - v) + ")");
            }
        }
    }

    /**
     * Each HALF makes two of one, each HALF summary three: no more than 40 are 36 at most, more are 48 at
     * least. Told are the HALFs that are no summaries, those that are, and what comes out.
     */
    private static final int[][] FOCUSED = {{6, 0, UNKNOWN}, {5, 0, 32}, {4, 1, UNKNOWN}, {3, 1, 24}, {2, 2, 36}, {0, 3, 27}};

    /** The summaries stand together, at each place in turn. */
    private static void manyOutOfFocusing() {
        for (int[] row : FOCUSED) {
            for (int first = 0; first <= row[0]; first++) {
                int p = 2 + first % 4;
                Story story = small("UNKNOWN: more than 40 structures come out of focusing", "edge(0, 0, " + p + ", 0)",
                    "edge(0, 0, " + p + ", 1)", "edge(0, 0, 15, 0)", "apply(2, 0)", "universe(0, " + (row[0] + row[1]) + ")");
                for (int u = 0; u < row[0] + row[1]; u++) {
                    boolean summary = u >= first && u < first + row[1];
                    story.make("put(0, " + p + ", " + u + ", 0, 2)", "summary(0, " + u + ", " + summary + ")");
                }
                seeMany(story, row[2]);
            }
        }
    }

    /** The one along which it is focused is the first that is no summary. */
    private static void manyAlongOne() {
        for (int[] row : FOCUSED) {
            for (int first = 0; first <= row[0] && row[0] > 0; first++) {
                int p = 6 + first % 2;
                int u = first == 0 ? row[1] : 0;
                Story story = small("UNKNOWN: more than 40 structures come out of focusing along q",
                    "edge(0, 0, " + (p + 16 * 3) + ", 0)", "edge(0, 0, " + (p + 16 * 3) + ", 1)", "edge(0, 0, 15, 0)",
                    "apply(2, 0)", "universe(0, " + (row[0] + row[1]) + ")", "put(0, 3, " + u + ", 0, 1)");
                for (int w = 0; w < row[0] + row[1]; w++) {
                    boolean summary = w >= first && w < first + row[1];
                    story.make("put(0, " + p + ", " + u + ", " + w + ", 2)", "summary(0, " + w + ", " + summary + ")");
                }
                seeMany(story, row[2]);
            }
        }
    }

    /** Edge 0 lets all go on, edge 1 none; rules that no structure keeps come at last. */
    private static void seeMany(Story story, int count) {
        if (count < 0) {
            story.still(UNKNOWN, "apply(0, 0)");
            story.still(UNKNOWN, "apply(1, 0)");
            story.make("rule(0, 2, 0)", "rule(0, 2, 1)");
            story.still(UNKNOWN, "apply(0, 0)");
        } else {
            story.due(count, "apply(0, 0)");
            story.make("pile(" + (count - 1) + ", 3)");
            story.still(NO, "pile(" + count + ", 3)");
            story.due(0, "apply(1, 0)");
        }
    }

    private static void alikeOutOfFocusing() {
        Story story = small("those alike as often as they do", "edge(0, 0, 3, 0)", "change(0, 3, 1)", "universe(0, 2)",
            "put(0, 3, 0, 0, 2)", "put(0, 3, 1, 0, 2)");
        story.due(4, "apply(0, 0)");
        for (int i = 0; i < 4; i++) {
            story.make("pile(" + i + ", 1)");
            story.due(0, "get(1, 3, #, 0)", 0, 1);
        }
        story.still(NO, "pile(4, 1)");
        Story split = small("those alike as often as they do", "edge(0, 0, 3, 0)", "universe(0, 2)", "summary(0, 0, true)",
            "summary(0, 1, true)", "put(0, 3, 0, 0, 2)", "put(0, 3, 1, 0, 2)");
        split.due(9, "apply(0, 0)");
        for (int i = 4; i < 6; i++) {
            split.make("pile(" + i + ", 1)");
            split.due(3, "size(1)");
            split.due(0, "get(1, 3, #, 0)", 0, 1);
            split.due(1, "get(1, 3, 2, 0)");
        }
    }

    private static void sixBySplit() {
        for (int p = 2; p < 8; p++) {
            int pivot = p < 6 ? -1 : 0;
            Story story = small("n at most 6: a split to six", "edge(0, 0, " + (p + 16 * 4) + ", 0)", "universe(0, 5)",
                "put(0, 4, 0, 0, 1)", "summary(0, 4, true)");
            story.make(pivot < 0 ? "put(0, " + p + ", 4, 0, 2)" : "put(0, " + p + ", 0, 4, 2)");
            story.due(3, "apply(0, 0)");
            story.make("pile(2, 1)");
            story.due(6, "size(1)");
            story.due(1, pivot < 0 ? "get(1, " + p + ", 5, 0)" : "get(1, " + p + ", 0, 5)");
            story.due(0, pivot < 0 ? "get(1, " + p + ", 4, 0)" : "get(1, " + p + ", 0, 4)");
            story.due(2, "get(1, 8, #, #)", 4, 5);
        }
    }

    /** Each of five is split in turn; the values are so that no two rows are alike. */
    private static void allOfTheSplitOne() {
        for (int split = 0; split < 5; split++) {
            Story story = small("a last one more, which has all values that the split one has", "edge(0, 0, 2, 0)", "universe(0, 5)",
                "summary(0, " + split + ", true)", "put(0, 2, " + split + ", 0, 2)");
            for (int u = 0; u < 5; u++) {
                for (int p = 3; p < 8; p++) {
                    for (int w = 0; w < (p < 6 ? 1 : 5); w++) {
                        story.make("put(0, " + p + ", " + u + ", " + w + ", " + splitValue(p, u, w) + ")");
                    }
                }
            }
            story.due(3, "apply(0, 0)");
            story.make("pile(2, 1)");
            story.due(6, "size(1)");
            for (int u = 0; u < 6; u++) {
                int was = u < 5 ? u : split;
                story.due(was == split ? 2 : 1, "get(1, 8, " + u + ", " + u + ")");
                story.due(u == 5 ? 1 : 0, "get(1, 2, " + u + ", 0)");
                for (int p = 3; p < 8; p++) {
                    for (int w = 0; w < (p < 6 ? 1 : 6); w++) {
                        story.due(splitValue(p, was, w < 5 ? w : split), "get(1, " + p + ", " + u + ", " + w + ")");
                    }
                }
            }
        }
    }

    private static int splitValue(int p, int u, int w) {
        return (p + 2 * u + w * w + u * w * p) % 3;
    }

    private static void sevenBySplit() {
        for (int p = 2; p < 8; p++) {
            for (int n = 5; n <= 6; n++) {
                Story story = small("UNKNOWN: .. some structure would have more than 6 individuals (by a split)",
                    "edge(0, 0, " + (p + 16 * 4) + ", 0)", "edge(0, 0, " + (p + 16 * 4) + ", 1)", "edge(0, 0, 15, 0)",
                    "universe(0, 1)", "apply(2, 0)", "universe(0, " + n + ")", "put(0, 4, 0, 0, 1)");
                for (int u = n == 5 ? 3 : 5; u < n; u++) {
                    story.make(p < 6 ? "put(0, " + p + ", " + u + ", 0, 2)" : "put(0, " + p + ", 0, " + u + ", 2)",
                        "summary(0, " + u + ", true)");
                }
                story.still(UNKNOWN, "apply(#, 0)", 0, 1);
                story.make("summary(0, " + (n - 1) + ", false)");
                story.due(n == 5 ? 6 : 2, "apply(0, 0)");
            }
        }
    }

    private static void sixByCreate() {
        Story story = small("n at most 6: create to six", "edge(0, 0, 271, 0)");
        for (int n = 0; n < 6; n++) {
            story.due(n, "size(0)");
            story.due(1, "apply(0, 0)");
            story.make("pile(0, 0)");
        }
        story.due(6, "size(0)");
        story.still(UNKNOWN, "apply(0, 0)");
    }

    private static void sevenByCreate() {
        Story story = small("more than 6 individuals (.. by create where its precondition is not 0)", "edge(0, 0, 271, 0)",
            "edge(0, 0, 271, 1)", "edge(0, 0, 271, 2)", "edge(0, 0, 15, 0)", "apply(3, 0)", "universe(0, 6)");
        story.still(UNKNOWN, "apply(#, 0)", 0, 2);
        story.due(0, "apply(1, 0)");
        story.still(NO, "pile(0, 1)");
        story.due(1, "apply(3, 0)");
    }

    /** Five individuals, the last a HALF summary: the split one has six, and then there is no room to create. */
    private static void sevenBySplitAndCreate() {
        Story story = small("more than 6 individuals: by a split and create together", "formula(1, 2, 0, 0, 0)",
            "formula(6, 0, 0, 3, 0)", "formula(3, 0, 0, 4, 0)", "edge(0, 0, 258, 0)", "edge(0, 0, 258, 4)", "edge(0, 0, 258, 5)",
            "universe(0, 5)", "summary(0, 4, true)", "put(0, 2, 4, 0, 2)");
        story.still(UNKNOWN, "apply(#, 0)", 0, 1);
        story.due(1, "apply(2, 0)");
        story.make("pile(0, 1)");
        story.due(6, "size(1)");
        story.make("universe(0, 4)", "summary(0, 3, true)", "put(0, 2, 3, 0, 2)");
        story.due(3, "apply(0, 0)");
        story.due(2, "apply(1, 0)");
    }

    private static void sevenThoughImpossible() {
        Story story = small("also if it would be impossible then", "edge(0, 0, 271, 0)", "edge(0, 0, 271, 1)", "rule(0, 2, 0)",
            "rule(0, 2, 1)", "universe(0, 5)", "universe(1, 6)");
        story.due(0, "apply(0, 0)");
        story.still(UNKNOWN, "apply(0, 1)");
        story.due(0, "apply(1, 1)");
    }

    private static void preconditionValues() {
        int[] dues = {1, 0, 1};
        for (int f = 0; f < 3; f++) {
            Story story = small("Each structure for which the precondition is not 0 goes on", "edge(0, 0, 15, " + f + ")");
            story.due(dues[f], "apply(0, 0)");
            story.make("universe(0, 6)");
            story.due(dues[f], "apply(0, 0)");
        }
    }

    /** All values of the others are 1 or HALF, so that nothing of theirs can be taken for its own. */
    private static void createdOne() {
        for (int n = 0; n < 6; n++) {
            Story story = small("with create, a last individual comes to it, no summary, of which predicate 5 is 1 and all "
                + "others 0 (5 is 0 for all the others then)", "edge(0, 0, 271, 0)", "universe(0, " + n + ")");
            for (int u = 0; u < n; u++) {
                story.make("summary(0, " + u + ", true)");
                for (int p = 2; p < 8; p++) {
                    for (int w = 0; w < (p < 6 ? 1 : n); w++) {
                        story.make("put(0, " + p + ", " + u + ", " + w + ", " + (1 + u % 2) + ")");
                    }
                }
            }
            story.due(1, "apply(0, 0)");
            story.make("pile(0, 1)");
            story.due(n + 1, "size(1)");
            for (int u = 0; u <= n; u++) {
                story.due(u < n ? 2 : 1, "get(1, 8, " + u + ", " + u + ")");
                story.due(u < n ? 0 : 1, "get(1, 5, " + u + ", 0)");
                story.due(u < n ? 1 + u % 2 : 0, "get(1, 2, " + u + ", 0)");
                story.due(u < n ? 1 + u % 2 : 0, "get(1, 6, " + u + ", 0)");
                story.due(0, "get(1, 6, " + u + ", " + n + ")");
                story.due(0, "get(1, 7, " + u + ", " + n + ")");
                story.due(0, "get(1, 7, " + n + ", " + u + ")");
            }
            story.due(0, "get(1, #, " + n + ", 0)", 2, 3, 4, 6);
        }
    }

    private static void lastChangeCounts() {
        for (int p = 0; p < 8; p++) {
            Story story = small("of several changes of one predicate the last one counts", "edge(0, 0, 15, 0)",
                "change(0, " + p + ", 0)", "universe(0, 1)");
            int[] values = {1, 0, 2};
            for (int count = 2; count <= 4; count++) {
                story.make("change(0, " + p + ", " + (count - 1) % 3 + ")");
                story.due(1, "apply(0, 0)");
                story.make("pile(0, 1)");
                story.due(values[(count - 1) % 3], "get(1, " + p + ", 0, 0)");
            }
        }
    }

    private static void changesWithoutIndividuals() {
        Story story = small("the predicate has for each row of individuals the value: without individuals", "edge(0, 0, 15, 0)",
            "change(0, 0, 0)", "change(0, 1, 2)", "change(0, 2, 0)", "change(0, 6, 0)");
        story.due(1, "apply(0, 0)");
        story.make("pile(0, 1)");
        story.due(0, "size(1)");
        story.due(1, "get(1, 0, 0, 0)");
        story.due(2, "get(1, 1, 0, 0)");
        story.make("universe(1, 6)");
        story.due(0, "get(1, 2, #, 0)", 0, 5);
        story.due(0, "get(1, 6, #, #)", 0, 5);
    }

    /** Predicate 2 becomes p3, predicate 6 is turned about: for all of six individuals. */
    private static void changesOfAllRows() {
        Story story = small("for each row of individuals .. (with them as variables 0 and 1)", "formula(1, 3, 0, 0, 0)",
            "formula(1, 6, 1, 0, 0)", "edge(0, 0, 15, 0)", "change(0, 2, 3)", "change(0, 6, 4)", "change(0, 7, 3)", "universe(0, 6)");
        for (int u = 0; u < 6; u++) {
            story.make("put(0, 3, " + u + ", 0, " + (u + 1) % 3 + ")", "put(0, 6, 0, " + u + ", " + u % 3 + ")",
                "put(0, 6, 5, " + u + ", " + (u + 2) % 3 + ")");
        }
        story.due(1, "apply(0, 0)");
        story.make("pile(0, 1)");
        for (int u = 0; u < 6; u++) {
            story.due((u + 1) % 3, "get(1, 2, " + u + ", 0)");
            story.due(u % 3, "get(1, 6, " + u + ", 0)");
            story.due((u + 2) % 3, "get(1, 6, " + u + ", 5)");
            story.due((u + 1) % 3, "get(1, 7, " + u + ", #)", 0, 5);
        }
    }

    private static void impossibleAreGone() {
        Story story = small("Then it is coerced; those that are impossible are gone.", "formula(1, 2, 0, 0, 0)", "rule(3, 3, 1)",
            "edge(0, 0, 2, 0)", "universe(0, 2)", "put(0, 2, 0, 0, 2)", "put(0, 2, 1, 0, 2)", "put(0, 3, 0, 0, 2)");
        story.due(2, "apply(0, 0)");
        story.make("pile(0, 1)");
        story.due(0, "get(1, 2, 0, 0)");
        story.due(2, "get(1, 3, 0, 0)");
        story.make("pile(1, 1)");
        story.due(1, "get(1, 2, 0, 0)");
        story.due(1, "get(1, 3, 0, 0)");
        story.due(0, "get(1, 2, 1, 0)");
        story.make("put(0, 2, 1, 0, 1)");
        story.due(0, "apply(0, 0)");
        story.still(NO, "pile(0, 1)");
    }

    /** What comes out of focusing first, with 0, has 1 in what counts for more. */
    private static void pileInOrder() {
        for (int p = 0; p < 8; p++) {
            int focus = p == 4 ? 3 : 4;
            Story story = small("in the order of the points' structures", "formula(1, " + focus + ", 1, 0, 0)", "formula(3, 0, 0, 3, 0)",
                "formula(7, 1, 0, 4, 0)", "edge(0, 0, " + focus + ", 0)", "change(0, " + p + ", 5)", "change(0, " + focus + ", 1)",
                "universe(0, 1)", "put(0, " + focus + ", 0, 0, 2)");
            story.due(2, "apply(0, 0)");
            for (int i = 0; i < 2; i++) {
                story.make("pile(" + i + ", 1)");
                story.due(i, "get(1, " + p + ", 0, 0)");
            }
        }
        Story sizes = small("in the order of the points' structures: fewer individuals first", "edge(0, 0, 2, 0)", "universe(0, 1)",
            "summary(0, 0, true)", "put(0, 2, 0, 0, 2)");
        sizes.due(3, "apply(0, 0)");
        for (int i = 0; i < 3; i++) {
            sizes.make("pile(" + i + ", 1)");
            sizes.due(i < 2 ? 1 : 2, "size(1)");
            sizes.due(i == 1 ? 1 : 0, "get(1, 2, 0, 0)");
        }
    }

    /** ALL_KINDS ends with a pile of three. */
    private static void pileRange() {
        Story story = rich("pile: False when there is none such, or no such slot.");
        for (int s = 0; s < 4; s++) {
            story.still(NO, "pile(#, " + s + ")", Story.outOf(0, 2));
        }
        for (int i = 0; i < 3; i++) {
            story.still(NO, "pile(" + i + ", #)", Story.outOf(0, 3));
        }
        story.still(NO, "pile(3, 4)");
        for (int s = 0; s < 4; s++) {
            story.due(YES, "pile(#, " + s + ")", 0, 2);
            story.due(3, "size(" + s + ")");
        }
    }

    private static void pileOfNone() {
        Story story = rich("pile: False when there is none such: an empty pile");
        story.due(0, "apply(2, 0)");
        story.still(NO, "pile(#, 1)", -1, 0, 1);
    }

    /** Slot 1 was full before: all of it is gone. */
    private static void pileCopies() {
        String[] shape = {"put(0, 0, 0, 0, 2)", "put(0, 1, 0, 0, 1)", "universe(0, 2)", "summary(0, 1, true)", "put(0, 2, 0, 0, 1)",
            "put(0, 5, 1, 0, 2)", "put(0, 6, 0, 1, 2)", "put(0, 7, 1, 1, 1)"};
        String[] edge = {"edge(0, 0, 15, 0)", "apply(0, 0)"};
        Story story = small("A structure is COPIED with everything.", Story.with(shape, edge));
        story.make("universe(1, 6)", "put(1, 0, 0, 0, 1)", "put(1, 2, 5, 0, 1)", "put(1, 6, 5, 5, 1)", "put(1, 7, 0, 0, 2)",
            "summary(1, 0, true)");
        story.make("pile(0, 1)");
        String[] again = new String[shape.length];
        for (int i = 0; i < shape.length; i++) {
            again[i] = shape[i].replace("(0,", "(1,");
        }
        story.sameAs(Story.with(Story.with(VALUES, Story.with(shape, edge)), again));
        story.make("put(1, 2, 0, 0, 0)", "put(1, 0, 0, 0, 0)", "universe(1, 0)", "pile(0, 1)");
        story.sameAs(Story.with(Story.with(VALUES, Story.with(shape, edge)), again));
    }

    /** Twice many structures with a HALF come out, then few are asked for: what was before is not met again. */
    private static void nothingLeftOver() {
        for (int p = 2; p < 8; p++) {
            int other = p == 4 ? 3 : 4;
            Story story = small("the structures that come out .. are the PILE then: nothing of earlier ones",
                "edge(0, 0, " + other + ", 0)", "edge(0, 0, " + (p + 16 * 5) + ", 0)", "universe(0, 5)", "put(0, 5, 0, 0, 1)");
            for (int u = 0; u < 5; u++) {
                story.make("put(0, " + other + ", " + u + ", 0, 2)");
                story.make(p < 6 ? "put(0, " + p + ", " + (u == 0 ? 1 : u) + ", 0, 2)" : "put(0, " + p + ", 0, " + u + ", 2)");
            }
            story.due(32, "apply(0, 0)");
            story.due(32, "apply(0, 0)");
            story.make("universe(1, 5)", "put(1, 5, 0, 0, 1)");
            story.due(1, "apply(1, 1)");
            story.still(NO, "pile(1, 2)");
            story.make("pile(0, 2)");
            story.due(YES, "embeds(1, 2)");
            story.due(1, "apply(1, 1)");
            story.still(NO, "pile(1, 2)");
        }
    }

    private static void pileStays() {
        Story story = rich("UNKNOWN (the pile stays then)");
        story.make("edge(0, 0, 271, 0)", "universe(1, 6)");
        story.still(UNKNOWN, "apply(3, 1)");
        story.still(BAD, "apply(4, 1)");
        story.make("pile(2, 2)");
        story.due(3, "size(2)");
        story.due(1, "apply(3, 2)");
        story.still(NO, "pile(1, 0)");
    }
}
