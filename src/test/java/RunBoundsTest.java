/** The boundary cases of promises 18 to 22 and of the terms that they use, a test for each sentence. */
final class RunBoundsTest {
    private static final int NO = Story.NO;
    private static final int YES = Story.YES;
    private static final int BAD = Story.BAD;
    private static final int FULL = Story.FULL;
    private static final int UNKNOWN = Story.UNKNOWN;
    /** Formula 0 is 1, formula 1 is 0, formula 2 is HALF. */
    private static final String[] VALUES = {"formula(0, 1, 0, 0, 0)", "formula(0, 0, 0, 0, 0)", "formula(0, 2, 0, 0, 0)"};
    private static final Check check = new Check("RunBoundsTest");

    public static void main(String[] args) {
        startRange();
        startOfNone();
        startBlurred();
        startNotCoerced();
        startAlready();
        startForgets();
        twelveStarted();
        badBeforeFull();
        twelveAtEachPoint();
        runOfNothing();
        runWithoutEdges();
        runUntilNothingIsNew();
        twelveByEdges();
        thirteenByEdges();
        thirteenWithStarted();
        unknownByFocus();
        unknownByCreate();
        knownWhereNothingComes();
        onlyStartedThen();
        knownAgain();
        runAgain();
        recordedStays();
        orderByIndividuals();
        orderAfterRun();
        orderByRow();
        recordedRange();
        showRange();
        showOfNone();
        showCopies();
        knownRange();
        knownOfNothing();
        knownVariables();
        knownJoins();
        knownOfTwelve();
        check.end();
    }

    private static Story rich(String sentence) {
        return new Story(check, sentence, Story.ALL_KINDS);
    }

    private static Story small(String sentence, String... calls) {
        return new Story(check, sentence, Story.with(VALUES, calls));
    }

    /** Slot 0 gets one individual whose values of 2 .. 5 are the number's digits, in threes. */
    private static String[] numbered(int number) {
        return new String[] {"universe(0, 1)", "put(0, 2, 0, 0, " + number / 27 + ")", "put(0, 3, 0, 0, " + number / 9 % 3 + ")",
            "put(0, 4, 0, 0, " + number / 3 % 3 + ")", "put(0, 5, 0, 0, " + number % 3 + ")"};
    }

    private static void startNumbers(Story story, int point, int count) {
        for (int i = 0; i < count; i++) {
            story.make(numbered(i));
            story.due(i + 1, "start(" + point + ", 0)");
        }
    }

    private static void startRange() {
        Story story = rich("start: BAD when there is no such point or slot");
        story.still(BAD, "start(#, 0)", Story.outOf(0, 3));
        story.still(BAD, "start(0, #)", Story.outOf(0, 3));
        story.still(BAD, "start(#, #)", Story.outOf(0, 3));
        story.due(2, "start(0, 3)");
        story.due(2, "start(1, 0)");
        story.due(1, "start(2, 3)");
        story.due(2, "start(3, 0)");
    }

    private static void startOfNone() {
        Story story = small("Starts a point with slot s: one without individuals");
        story.due(1, "start(#, 3)", Story.range(0, 3));
        story.still(1, "start(#, 3)", Story.range(0, 3));
        story.due(YES, "show(2, 0, 1)");
        story.due(0, "size(1)");
    }

    /** The slot itself stays as it is; the structure that is blurred already is the same. */
    private static void startBlurred() {
        Story story = small("Starts a point with slot s, blurred", "universe(0, 6)", "put(0, 3, 0, 0, 1)", "put(0, 6, 0, 5, 1)");
        story.due(1, "start(2, 0)");
        story.due(6, "size(0)");
        story.due(1, "get(0, 3, 0, 0)");
        story.due(1, "get(0, 6, 0, 5)");
        story.make("show(2, 0, 1)");
        story.due(2, "size(1)");
        story.due(2, "get(1, 8, 0, 0)");
        story.due(2, "get(1, 6, 1, 0)");
        story.still(1, "start(2, 1)");
        story.make("blur(0)");
        story.still(1, "start(2, 0)");
    }

    /** One that could be sharpened, and one that is impossible. */
    private static void startNotCoerced() {
        Story story = small("not coerced", "rule(0, 2, 1)", "universe(0, 1)", "put(0, 2, 0, 0, 2)");
        story.due(1, "start(0, 0)");
        story.make("show(0, 0, 1)");
        story.due(2, "get(1, 2, 0, 0)");
        story.make("universe(0, 2)", "put(0, 2, 1, 0, 2)");
        story.due(2, "start(0, 0)");
        story.make("show(0, 1, 1)");
        story.due(2, "size(1)");
        story.due(0, "get(1, 2, 0, 0)");
        story.due(2, "get(1, 2, 1, 0)");
        story.still(2, "run()");
    }

    private static void startAlready() {
        Story story = rich("it may be started already");
        story.make("start(2, 3)", "start(0, 0)");
        story.still(2, "start(0, 0)");
        story.still(1, "start(1, 2)");
        story.still(1, "start(2, 3)");
        story.still(1, "start(3, 1)");
    }

    private static void startForgets() {
        String[] calls = Story.with(VALUES, "edge(0, 1, 15, 0)", "edge(1, 2, 15, 0)", "edge(3, 2, 271, 0)", "start(0, 0)",
            "start(3, 0)");
        for (int point = 0; point < 4; point++) {
            Story story = new Story(check, "what is recorded becomes, at all points, only what was started", calls);
            story.due(5, "run()");
            story.make("start(" + point + ", 0)");
            story.sameAs(Story.with(calls, "start(" + point + ", 0)"));
            story.due(1, "recorded(" + point + ")");
            story.due(point == 1 ? 1 : 0, "recorded(1)");
            story.due(point == 2 ? 1 : 0, "recorded(2)");
        }
    }

    private static void twelveStarted() {
        for (int point = 0; point < 4; point++) {
            Story story = small("FULL when it has 12 started, and this isn't one of them.", "edge(0, 1, 15, 0)", "universe(1, 2)",
                "put(1, 5, 0, 0, 2)");
            startNumbers(story, point, 12);
            story.make("run()");
            story.still(FULL, "start(" + point + ", 1)");
            story.still(FULL, "start(" + point + ", 2)");
            for (int i = 0; i < 12; i += 11) {
                story.make(numbered(i));
                story.due(12, "start(" + point + ", 0)");
                story.still(12, "start(" + point + ", 0)");
            }
            story.make(numbered(12));
            story.still(FULL, "start(" + point + ", 0)");
            story.due(1, "start(" + (point + 1) % 4 + ", 0)");
            story.still(FULL, "start(" + point + ", 0)");
        }
    }

    private static void badBeforeFull() {
        Story story = small("start: BAD when there is no such point or slot; FULL ..");
        startNumbers(story, 0, 12);
        story.still(FULL, "start(0, 1)");
        story.still(BAD, "start(0, #)", -1, 4);
        story.still(BAD, "start(#, 1)", -1, 4);
    }

    private static void twelveAtEachPoint() {
        Story story = small("start: 12 at each of the four points");
        for (int i = 0; i < 12; i++) {
            story.make(numbered(i));
            story.due(i + 1, "start(#, 0)", Story.range(0, 3));
        }
        story.still(FULL, "start(#, 1)", Story.range(0, 3));
        story.still(48, "run()");
        story.still(12, "recorded(#)", Story.range(0, 3));
    }

    private static void runOfNothing() {
        Story story = small("A run, from what was started: nothing", "edge(0, 0, 15, 0)", "edge(0, 1, 271, 0)", "universe(0, 6)");
        story.still(0, "run()");
        story.still(0, "recorded(#)", Story.range(0, 3));
    }

    private static void runWithoutEdges() {
        Story story = small("A run, from what was started: without edges", "start(0, 0)", "universe(0, 3)", "start(0, 0)",
            "start(3, 0)");
        story.still(3, "run()");
    }

    /** Each round sets one predicate more: 0, then 1, then none is new. */
    private static void runUntilNothingIsNew() {
        Story story = small("until nothing is new", "formula(1, 0, 0, 0, 0)", "edge(2, 2, 15, 0)", "change(0, 0, 0)", "change(0, 1, 3)",
            "start(2, 0)");
        story.due(3, "run()");
        story.due(3, "recorded(2)");
        int[][] rows = {{0, 0}, {1, 0}, {1, 1}};
        for (int i = 0; i < 3; i++) {
            story.make("show(2, " + i + ", 1)");
            story.due(rows[i][0], "get(1, 0, 0, 0)");
            story.due(rows[i][1], "get(1, 1, 0, 0)");
        }
        story.still(3, "run()");
    }

    /** Point 1 gets what point 0 has, and with p0 1 besides: two for each that was started. */
    private static Story doubled(String sentence, int count) {
        Story story = small(sentence, "edge(0, 1, 15, 0)", "edge(0, 1, 15, 0)", "change(1, 0, 0)");
        startNumbers(story, 0, count);
        return story;
    }

    private static void twelveByEdges() {
        Story story = doubled("UNKNOWN: a point would have more than 12: it has 12", 6);
        story.due(18, "run()");
        story.due(6, "recorded(0)");
        story.due(12, "recorded(1)");
        story.still(18, "run()");
    }

    private static void thirteenByEdges() {
        Story story = doubled("UNKNOWN: a point would have more than 12", 6);
        story.make(numbered(80));
        story.due(7, "start(0, 0)");
        story.still(UNKNOWN, "run()");
        story.still(7, "recorded(0)");
        story.still(0, "recorded(1)");
    }

    private static void thirteenWithStarted() {
        Story story = doubled("UNKNOWN: a point would have more than 12, with what was started there", 6);
        story.make("start(1, 0)");
        story.due(18, "run()");
        story.make(numbered(80));
        story.due(2, "start(1, 0)");
        story.still(UNKNOWN, "run()");
        story.still(2, "recorded(1)");
        Story own = small("UNKNOWN: a point would have more than 12, by an edge to itself", "edge(3, 3, 15, 0)", "change(0, 1, 0)");
        startNumbers(own, 3, 6);
        own.due(12, "run()");
        own.make(numbered(6));
        own.due(7, "start(3, 0)");
        own.still(UNKNOWN, "run()");
    }

    /** 36 come out of focusing, or 48; they are blurred to fewer than 13 then. */
    private static void unknownByFocus() {
        Story story = small("UNKNOWN: .. an application is unknown: by focusing", "edge(0, 1, 2, 0)", "change(0, 2, 1)",
            "change(0, 3, 1)", "change(0, 4, 1)", "change(0, 5, 1)", "edge(0, 2, 15, 0)", "universe(0, 5)", "put(0, 5, 1, 0, 1)",
            "put(0, 5, 2, 0, 2)", "put(0, 4, 3, 0, 1)", "put(0, 3, 4, 0, 1)", "put(0, 2, 0, 0, 2)", "put(0, 2, 1, 0, 2)",
            "put(0, 2, 2, 0, 2)", "put(0, 2, 3, 0, 2)", "put(0, 2, 4, 0, 2)");
        story.due(1, "start(0, 0)");
        story.due(3, "run()");
        story.make("summary(0, 4, true)");
        story.due(2, "start(0, 0)");
        story.still(UNKNOWN, "run()");
        story.still(0, "recorded(#)", 1, 2, 3);
    }

    private static void unknownByCreate() {
        String[] six = {"universe(0, 6)", "put(0, 5, 1, 0, 1)", "put(0, 5, 2, 0, 2)", "put(0, 4, 3, 0, 1)", "put(0, 3, 4, 0, 1)",
            "put(0, 2, 5, 0, 1)"};
        for (int f = 0; f < 3; f++) {
            Story story = small("UNKNOWN: .. an application is unknown: by create", "edge(0, 1, 15, 0)", "edge(1, 2, 271, " + f + ")");
            story.make(six);
            story.make("start(0, 0)");
            if (f == 1) {
                story.due(2, "run()");
            } else {
                story.still(UNKNOWN, "run()");
                story.still(0, "recorded(#)", 1, 2);
            }
        }
    }

    /** An edge that would be unknown does no harm where its point has nothing. */
    private static void knownWhereNothingComes() {
        Story story = small("each edge from it is applied to it: not to what is elsewhere", "edge(1, 2, 271, 0)",
            "edge(0, 1, 15, 1)", "universe(0, 6)", "put(0, 5, 1, 0, 1)", "put(0, 5, 2, 0, 2)", "put(0, 4, 3, 0, 1)",
            "put(0, 3, 4, 0, 1)", "put(0, 2, 5, 0, 1)", "start(0, 0)", "start(2, 0)");
        story.still(2, "run()");
    }

    private static void onlyStartedThen() {
        String[] calls = Story.with(VALUES, "edge(0, 1, 15, 0)", "edge(1, 2, 15, 0)", "universe(0, 6)", "put(0, 5, 1, 0, 1)",
            "put(0, 5, 2, 0, 2)", "put(0, 4, 3, 0, 1)", "put(0, 3, 4, 0, 1)", "put(0, 2, 5, 0, 1)", "start(0, 0)", "start(3, 1)",
            "apply(0, 0)");
        Story story = new Story(check, "What is recorded is then only what was started, whatever was before.", calls);
        story.due(4, "run()");
        story.make("edge(2, 3, 271, 0)");
        story.due(1, "recorded(#)", Story.range(0, 3));
        story.due(UNKNOWN, "run()");
        story.due(1, "recorded(#)", 0, 3);
        story.due(0, "recorded(#)", 1, 2);
        story.sameAs(Story.with(calls, "edge(2, 3, 271, 0)"));
    }

    /** After an unknown run, a start and rules that keep what is new away, it is known again. */
    private static void knownAgain() {
        Story story = small("A run, from what was started: after an unknown one", "formula(1, 2, 0, 0, 0)", "edge(0, 1, 271, 0)",
            "universe(0, 6)", "put(0, 5, 1, 0, 1)", "put(0, 5, 2, 0, 2)", "put(0, 4, 3, 0, 1)", "put(0, 3, 4, 0, 1)",
            "put(0, 2, 5, 0, 1)", "start(1, 0)", "start(2, 0)");
        story.still(2, "run()");
        story.make("start(0, 1)");
        story.due(4, "run()");
        story.make("start(0, 0)");
        story.due(UNKNOWN, "run()");
        story.still(UNKNOWN, "run()");
        story.due(2, "recorded(0)");
        story.due(1, "recorded(#)", 1, 2);
    }

    private static void runAgain() {
        Story story = rich("How many structures are recorded in all");
        int total = 0;
        int[] counts = new int[4];
        ThreeValues x = new ThreeValues();
        for (Call call : Call.all(Story.ALL_KINDS)) {
            call.on(x);
        }
        for (int point = 0; point < 4; point++) {
            counts[point] = x.recorded(point);
            total += counts[point];
            story.still(counts[point], "recorded(" + point + ")");
        }
        check.yes("something has come along the edges", counts[1] > 1 && counts[2] > 0 && total > 5);
        story.still(total, "run()");
    }

    private static void recordedStays() {
        Story story = small("What is recorded stays when rules, edges and changes come.", "formula(1, 0, 0, 0, 0)",
            "edge(0, 1, 15, 0)", "universe(0, 1)", "start(0, 0)", "run()");
        String[] coming = {"rule(0, 2, 1)", "edge(0, 2, 15, 0)", "change(0, 0, 0)", "formula(0, 0, 0, 0, 0)", "universe(0, 3)",
            "apply(1, 0)"};
        for (String call : coming) {
            story.make(call);
            story.due(1, "recorded(#)", 0, 1);
            story.due(0, "recorded(#)", 2, 3);
            story.due(0, "known(#, 3)", 0, 1);
            story.make("show(1, 0, 2)");
            story.due(1, "size(2)");
            story.due(0, "get(2, 2, 0, 0)");
        }
        story.due(1, "run()");
        story.due(0, "recorded(1)");
    }

    /** Started from the greatest to the least; p0 says the contrary. */
    private static void orderByIndividuals() {
        Story story = small("s is before t if it has fewer individuals");
        for (int n = 6; n >= 0; n--) {
            story.make("universe(0, " + n + ")", "put(0, 0, 0, 0, " + (n == 0 ? 2 : n == 6 ? 0 : 1) + ")");
            for (int u = 0; u < n; u++) {
                story.make("put(0, 2, " + u + ", 0, " + u / 3 + ")", "put(0, 3, " + u + ", 0, " + u % 3 + ")");
            }
            story.due(7 - n, "start(1, 0)");
        }
        for (int turn = 0; turn < 2; turn++) {
            for (int n = 0; n <= 6; n++) {
                story.make("show(1, " + n + ", 2)");
                story.due(n, "size(2)");
            }
            story.due(7, "run()");
        }
    }

    /** What the edges bring comes in the order HALF, 1, 0, and from two individuals to none. */
    private static void orderAfterRun() {
        Story story = small("The structures of a point are numbered in order", "edge(0, 3, 15, 0)", "change(0, 1, 2)",
            "edge(0, 3, 15, 0)", "change(1, 1, 0)", "edge(0, 3, 15, 0)", "edge(1, 3, 15, 0)", "edge(2, 3, 15, 0)",
            "universe(1, 2)", "put(1, 2, 1, 0, 1)", "start(0, 1)", "universe(1, 1)", "start(1, 1)", "start(2, 0)");
        story.due(8, "run()");
        story.due(5, "recorded(3)");
        int[][] rows = {{0, 0}, {1, 0}, {2, 0}, {2, 1}, {2, 2}};
        for (int i = 0; i < 5; i++) {
            story.make("show(3, " + i + ", 2)");
            story.due(rows[i][0], "size(2)");
            story.due(rows[i][1], "get(2, 1, 0, 0)");
        }
    }

    /**
     * Two of two individuals each, alike but for a pair of cells: the earlier cell of the row is less in
     * the first one, the later cell is greater in it.
     */
    private static void orderByRow() {
        String[] cells = {"put(0, 0, 0, 0, #)", "put(0, 1, 0, 0, #)", "summary(0, 0, #)", "put(0, 2, 0, 0, #)", "put(0, 3, 0, 0, #)",
            "put(0, 4, 0, 0, #)", "put(0, 5, 0, 0, #)", "summary(0, 1, #)", "put(0, 3, 1, 0, #)", "put(0, 4, 1, 0, #)",
            "put(0, 5, 1, 0, #)", "put(0, 6, 0, 0, #)", "put(0, 7, 0, 0, #)", "put(0, 6, 0, 1, #)", "put(0, 7, 0, 1, #)",
            "put(0, 6, 1, 0, #)", "put(0, 7, 1, 0, #)", "put(0, 6, 1, 1, #)", "put(0, 7, 1, 1, #)"};
        for (int i = 0; i + 1 < cells.length; i++) {
            for (int turn = 0; turn < 2; turn++) {
                // p2 keeps the two individuals apart and in their order, whatever their other values are.
                Story story = small("in the row of their values .. the first that differs is less", "universe(0, 2)", "put(0, 2, 1, 0, 2)");
                story.make(cell(cells[i], turn), cell(cells[i + 1], 1 - turn), "start(0, 0)");
                story.make(cell(cells[i], 1 - turn), cell(cells[i + 1], turn), "start(0, 0)");
                story.due(2, "recorded(0)");
                for (int k = 0; k < 2; k++) {
                    story.make("show(0, " + k + ", 0)");
                    story.due(seen(cells[i], k), look(cells[i]));
                    story.due(seen(cells[i + 1], 1 - k), look(cells[i + 1]));
                }
            }
        }
        Story half = small("the first that differs is less: 0, 1, HALF", "put(0, 1, 0, 0, 2)", "start(0, 0)", "put(0, 1, 0, 0, 0)",
            "start(0, 0)", "put(0, 1, 0, 0, 1)", "start(0, 0)");
        for (int value = 0; value < 3; value++) {
            half.make("show(0, " + value + ", 0)");
            half.due(value, "get(0, 1, 0, 0)");
        }
    }

    private static String cell(String call, int value) {
        return call.replace("#", call.startsWith("summary") ? value == 1 ? "true" : "false" : Integer.toString(value));
    }

    private static String look(String call) {
        String places = call.startsWith("summary") ? "8, " + call.substring(11, 12) + ", " + call.substring(11, 12)
            : call.substring(7, call.length() - 4);
        return "get(0, " + places + ")";
    }

    private static int seen(String call, int value) {
        return call.startsWith("summary") ? 1 + value : value;
    }

    private static void recordedRange() {
        Story story = rich("How many structures a point has recorded; BAD when there is no such point.");
        story.still(BAD, "recorded(#)", Story.outOf(0, 3));
        story.still(1, "recorded(#)", 0, 3);
    }

    private static void showRange() {
        Story story = rich("show: False when there is none such, or no such slot.");
        story.still(NO, "show(#, 0, 0)", Story.outOf(0, 3));
        for (int s = 0; s < 4; s++) {
            story.still(NO, "show(0, #, " + s + ")", Story.outOf(0, 0));
        }
        story.still(NO, "show(0, 0, #)", Story.outOf(0, 3));
        story.still(NO, "show(4, 1, 4)");
        story.due(YES, "show(#, 0, 2)", Story.range(0, 3));
        story.due(YES, "show(0, 0, #)", Story.range(0, 3));
        Story twelve = small("show: the last of twelve and one more");
        startNumbers(twelve, 2, 12);
        twelve.due(YES, "show(2, #, 1)", 0, 11);
        twelve.due(1, "get(1, 3, 0, 0)");
        twelve.still(NO, "show(2, #, 1)", -1, 12);
        twelve.still(NO, "show(#, 0, 1)", 1, 3);
    }

    private static void showOfNone() {
        Story story = small("show: False when there is none such: nothing is recorded", "edge(0, 1, 15, 1)", "start(0, 0)", "run()");
        story.still(NO, "show(#, 0, 1)", 1, 2, 3);
        story.due(YES, "show(0, 0, 1)");
    }

    private static void showCopies() {
        String[] shape = {"put(0, 0, 0, 0, 2)", "put(0, 1, 0, 0, 1)", "universe(0, 2)", "summary(0, 1, true)", "put(0, 2, 1, 0, 1)",
            "put(0, 5, 1, 0, 2)", "put(0, 6, 0, 1, 2)", "put(0, 7, 1, 1, 1)"};
        String[] again = new String[shape.length];
        for (int i = 0; i < shape.length; i++) {
            again[i] = shape[i].replace("(0,", "(3,");
        }
        Story story = small("show: A structure is COPIED with everything.", Story.with(shape, "start(1, 0)", "universe(3, 6)",
            "put(3, 0, 0, 0, 1)", "put(3, 2, 5, 0, 1)", "put(3, 6, 5, 5, 1)", "put(3, 7, 0, 0, 2)", "summary(3, 0, true)", "show(1, 0, 3)"));
        String[] due = Story.with(VALUES, Story.with(Story.with(shape, "start(1, 0)"), again));
        story.sameAs(due);
        story.make("put(3, 2, 0, 0, 1)", "put(3, 0, 0, 0, 0)", "universe(3, 0)", "show(1, 0, 3)");
        story.sameAs(due);
    }

    private static void knownRange() {
        Story story = rich("known: BAD when there is no such point or formula");
        story.still(BAD, "known(#, 0)", Story.outOf(0, 3));
        story.still(BAD, "known(0, #)", Story.outOf(0, 6));
        story.still(1, "known(#, 0)", Story.range(0, 3));
        story.still(0, "known(#, 4)", Story.range(0, 3));
        story.still(0, "known(0, 6)");
    }

    private static void knownOfNothing() {
        Story story = small("known: BAD when .. nothing is recorded there", "edge(0, 1, 15, 0)");
        story.still(BAD, "known(#, 0)", Story.range(0, 3));
        story.make("start(0, 0)");
        story.still(1, "known(0, 0)");
        story.still(BAD, "known(#, 0)", 1, 2, 3);
        story.make("run()");
        story.still(1, "known(#, 0)", 0, 1);
        story.still(BAD, "known(#, 0)", 2, 3);
    }

    private static void knownVariables() {
        Story story = rich("known: BAD when .. it has free variables");
        for (int v = 0; v < 6; v++) {
            story.make("formula(1, 3, " + v + ", 0, 0)", "formula(7, " + v + ", 0, " + (7 + 2 * v) + ", 0)");
        }
        story.still(BAD, "known(0, #)", 7, 9, 11, 13, 15, 17);
        story.still(0, "known(0, #)", 8, 10, 12, 14, 16, 18);
    }

    private static void knownJoins() {
        for (int first = 0; first < 3; first++) {
            for (int second = 0; second < 3; second++) {
                Story story = small("The join of formula f's values in all structures recorded at a point", "formula(1, 1, 0, 0, 0)",
                    "put(0, 1, 0, 0, " + first + ")", "start(3, 0)");
                story.still(first, "known(3, 3)");
                story.make("put(0, 0, 0, 0, 1)", "put(0, 1, 0, 0, " + second + ")", "start(3, 0)");
                story.still(first == second ? first : 2, "known(3, 3)");
            }
        }
    }

    /** One of twelve differs: the first, one in the middle, the last. */
    private static void knownOfTwelve() {
        for (int other : new int[] {-1, 0, 5, 11}) {
            for (int value = 0; value < 2; value++) {
                Story story = small("The join .. in all structures: of twelve", "formula(1, 6, 0, 0, 0)", "formula(6, 0, 0, 3, 0)");
                for (int i = 0; i < 12; i++) {
                    story.make(numbered(i));
                    story.make("put(0, 6, 0, 0, " + (i == other ? 1 - value : value) + ")", "start(1, 0)");
                }
                story.due(other < 0 ? value : 2, "known(1, 4)");
            }
        }
    }
}
