/** Promises 18 to 22: start, run, recorded, show, known. */
final class RunTest {
    private static final int BAD = ThreeValues.BAD;
    private static final int UNKNOWN = ThreeValues.UNKNOWN;
    private static final int NONE = 15;
    private static final int CREATE = 256;
    private static final Check check = new Check("RunTest");

    public static void main(String[] args) {
        startBlurs();
        startAgain();
        startForgetsRun();
        startFull();
        startRefused();
        startDoesNotCoerce();
        order();
        runAlongEdges();
        runGrows();
        runSorts();
        sixIndividuals();
        runRoundAndRound();
        runTooMany();
        runExactlyTwelve();
        runUnknownApplication();
        recordedStays();
        runAfterMoreEdges();
        showRefused();
        knownJoins();
        knownRefused();
        check.end();
    }

    /** A new object with formula 0, which is 1. */
    private static ThreeValues fresh() {
        ThreeValues x = new ThreeValues();
        x.formula(0, 1, 0, 0, 0);
        return x;
    }

    /** Slot 0 gets one individual with these values of 2 .. 5, read in three digits each. */
    private static void one(ThreeValues x, int number) {
        x.universe(0, 1);
        x.put(0, 2, 0, 0, number / 27 % 3);
        x.put(0, 3, 0, 0, number / 9 % 3);
        x.put(0, 4, 0, 0, number / 3 % 3);
        x.put(0, 5, 0, 0, number % 3);
    }

    private static void startBlurs() {
        ThreeValues x = new ThreeValues();
        x.universe(0, 3);
        x.put(0, 2, 0, 0, 1);
        x.put(0, 6, 0, 1, 1);
        check.due("start", x.start(2, 0), 1);
        check.due("recorded", x.recorded(2), 1);
        check.due("other point", x.recorded(1), 0);
        check.due("the slot stays", x.size(0), 3);
        check.due("the slot stays", x.get(0, 2, 0, 0), 1);
        check.yes("show", x.show(2, 0, 1));
        check.due("blurred", x.size(1), 2);
        check.due("blurred", x.get(1, 8, 0, 0), 2);
        check.due("blurred", x.get(1, 2, 1, 0), 1);
        check.due("blurred", x.get(1, 6, 1, 0), 2);
        x.put(1, 2, 1, 0, 2);
        x.show(2, 0, 3);
        check.due("a copy", x.get(3, 2, 1, 0), 1);
    }

    private static void startAgain() {
        ThreeValues x = new ThreeValues();
        x.universe(0, 2);
        check.due("start", x.start(0, 0), 1);
        check.due("the same again", x.start(0, 0), 1);
        x.universe(0, 4);
        check.due("the same when blurred", x.start(0, 0), 1);
        x.universe(0, 1);
        check.due("no summary", x.start(0, 0), 2);
        x.put(0, 0, 0, 0, 2);
        check.due("another p0", x.start(0, 0), 3);
        x.put(0, 7, 0, 0, 1);
        check.due("another p7", x.start(0, 0), 4);
        check.due("another point", x.start(3, 0), 1);
        check.due("recorded", x.recorded(0), 4);
    }

    private static void startForgetsRun() {
        ThreeValues x = fresh();
        x.edge(0, 1, NONE, 0);
        x.edge(1, 2, NONE, 0);
        check.due("start", x.start(0, 0), 1);
        check.due("run", x.run(), 3);
        check.due("recorded", x.recorded(2), 1);
        check.due("bad start", x.start(4, 0), BAD);
        check.due("recorded still", x.recorded(2), 1);
        check.due("started already", x.start(0, 0), 1);
        check.due("started stays", x.recorded(0), 1);
        check.due("forgotten", x.recorded(1), 0);
        check.due("forgotten", x.recorded(2), 0);
        check.due("run", x.run(), 3);
        check.due("another point", x.start(2, 0), 1);
        check.due("forgotten", x.recorded(1), 0);
        check.due("started", x.recorded(2), 1);
        check.due("run", x.run(), 3);
    }

    private static void startFull() {
        ThreeValues x = fresh();
        x.edge(0, 1, NONE, 0);
        for (int i = 0; i < 12; i++) {
            one(x, i);
            check.due("start", x.start(0, 0), i + 1);
        }
        check.due("run", x.run(), 24);
        one(x, 12);
        check.due("one more", x.start(0, 0), ThreeValues.FULL);
        check.due("refused, so the run stays", x.recorded(1), 12);
        check.due("bad before full", x.start(0, 4), BAD);
        one(x, 7);
        check.due("one of them", x.start(0, 0), 12);
        check.due("not refused, so the run is forgotten", x.recorded(1), 0);
        one(x, 12);
        check.due("another point", x.start(1, 0), 1);
        check.due("13 there", x.run(), UNKNOWN);
    }

    private static void startRefused() {
        ThreeValues x = new ThreeValues();
        check.due("point -1", x.start(-1, 0), BAD);
        check.due("point 4", x.start(4, 0), BAD);
        check.due("slot -1", x.start(0, -1), BAD);
        check.due("slot 4", x.start(0, 4), BAD);
        check.due("recorded -1", x.recorded(-1), BAD);
        check.due("recorded 4", x.recorded(4), BAD);
        for (int point = 0; point < 4; point++) {
            check.due("nothing", x.recorded(point), 0);
        }
    }

    private static void startDoesNotCoerce() {
        ThreeValues x = fresh();
        x.rule(0, 2, 1);
        x.edge(0, 1, NONE, 0);
        x.universe(0, 1);
        check.due("start", x.start(0, 0), 1);
        check.due("impossible at the other point", x.run(), 1);
        x.put(0, 2, 0, 0, 2);
        check.due("start", x.start(0, 0), 2);
        check.due("run", x.run(), 3);
        x.show(0, 1, 1);
        check.due("started as it was", x.get(1, 2, 0, 0), 2);
        x.show(1, 0, 1);
        check.due("coerced on the way", x.get(1, 2, 0, 0), 1);
    }

    /** Structures are started last first; each differs from the next in what counts for less. */
    private static void order() {
        ThreeValues x = new ThreeValues();
        x.universe(0, 2);
        x.put(0, 5, 1, 0, 1);
        check.due("two", x.start(0, 0), 1);
        x.universe(0, 1);
        x.put(0, 0, 0, 0, 2);
        check.due("p0", x.start(0, 0), 2);
        x.put(0, 0, 0, 0, 0);
        x.put(0, 1, 0, 0, 1);
        check.due("p1", x.start(0, 0), 3);
        x.put(0, 1, 0, 0, 0);
        x.summary(0, 0, true);
        check.due("summary", x.start(0, 0), 4);
        x.summary(0, 0, false);
        for (int p = 2; p < 6; p++) {
            x.put(0, p, 0, 0, 1);
            check.due("one place", x.start(0, 0), p + 3);
            x.put(0, p, 0, 0, 0);
        }
        x.put(0, 6, 0, 0, 1);
        check.due("p6", x.start(0, 0), 9);
        x.put(0, 6, 0, 0, 0);
        x.put(0, 7, 0, 0, 2);
        check.due("p7", x.start(0, 0), 10);
        x.put(0, 7, 0, 0, 1);
        check.due("p7", x.start(0, 0), 11);
        x.universe(0, 0);
        x.put(0, 0, 0, 0, 2);
        check.due("none", x.start(0, 0), 12);
        for (int turn = 0; turn < 2; turn++) {
            x.show(0, 0, 1);
            check.due("fewest individuals", x.size(1), 0);
            x.show(0, 1, 1);
            check.due("p7", x.get(1, 7, 0, 0), 1);
            x.show(0, 2, 1);
            check.due("p7", x.get(1, 7, 0, 0), 2);
            x.show(0, 3, 1);
            check.due("p6", x.get(1, 6, 0, 0), 1);
            for (int p = 2; p < 6; p++) {
                x.show(0, 9 - p, 1);
                check.due("one place", x.get(1, p, 0, 0), 1);
            }
            x.show(0, 8, 1);
            check.due("summary", x.get(1, 8, 0, 0), 2);
            x.show(0, 9, 1);
            check.due("p1", x.get(1, 1, 0, 0), 1);
            x.show(0, 10, 1);
            check.due("p0", x.get(1, 0, 0, 0), 2);
            x.show(0, 11, 1);
            check.due("most individuals", x.size(1), 2);
            check.due("the same after a run", x.run(), 12);
        }
    }

    /** Along 0 -> 1 -> 3 a flag is set and an individual marked; 2 is not reached. */
    private static void runAlongEdges() {
        ThreeValues x = fresh();
        int two = x.formula(1, 2, 0, 0, 0);
        int marked = x.formula(1, 2, 2, 0, 0);
        int some = x.formula(6, 2, 0, marked, 0);
        int none = x.formula(3, 0, 0, some, 0);
        check.due("edge", x.edge(0, 1, 2, some), 0);
        x.change(0, 3, two);
        check.due("edge", x.edge(1, 3, NONE, 0), 1);
        x.change(1, 0, 0);
        check.due("edge", x.edge(1, 2, NONE, none), 2);
        check.due("edge", x.edge(2, 0, NONE, 0), 3);
        x.universe(0, 1);
        x.summary(0, 0, true);
        x.put(0, 2, 0, 0, 2);
        check.due("start", x.start(0, 0), 1);
        check.due("run", x.run(), 5);
        check.due("at 0", x.recorded(0), 1);
        check.due("at 1", x.recorded(1), 2);
        check.due("at 2", x.recorded(2), 0);
        check.due("at 3", x.recorded(3), 2);
        x.show(1, 0, 1);
        check.due("one, marked", x.size(1), 1);
        check.due("one, marked", x.get(1, 3, 0, 0), 1);
        check.due("p0 at 1", x.get(1, 0, 0, 0), 0);
        x.show(3, 1, 1);
        check.due("two", x.size(1), 2);
        check.due("the first is not marked", x.get(1, 3, 0, 0), 0);
        check.due("the second is", x.get(1, 3, 1, 0), 1);
        check.due("p0 at 3", x.get(1, 0, 0, 0), 1);
    }

    /** A list that grows at its head: none, one, two, and many, in which all but the head are one. */
    private static void runGrows() {
        ThreeValues x = fresh();
        int head = x.formula(1, 2, 1, 0, 0);
        int newest = x.formula(1, 5, 0, 0, 0);
        int link = x.formula(4, 0, 0, newest, head);
        int was = x.formula(1, 6, 0, 1, 0);
        int next = x.formula(5, 0, 0, was, link);
        x.edge(0, 0, NONE + CREATE, 0);
        x.change(0, 6, next);
        x.change(0, 2, newest);
        x.change(0, 5, x.formula(0, 0, 0, 0, 0));
        check.due("start", x.start(0, 1), 1);
        check.due("run", x.run(), 4);
        x.show(0, 0, 0);
        check.due("none", x.size(0), 0);
        x.show(0, 1, 0);
        check.due("one", x.size(0), 1);
        check.due("the head", x.get(0, 2, 0, 0), 1);
        x.show(0, 2, 0);
        check.due("two", x.size(0), 2);
        check.due("no summary", x.get(0, 8, 0, 0), 1);
        check.due("linked", x.get(0, 6, 1, 0), 1);
        x.show(0, 3, 0);
        check.due("three or more", x.size(0), 2);
        check.due("a summary", x.get(0, 8, 0, 0), 2);
        check.due("the head is none", x.get(0, 8, 1, 1), 1);
        check.due("linked perhaps", x.get(0, 6, 1, 0), 2);
        check.due("linked perhaps", x.get(0, 6, 0, 0), 2);
        check.due("not linked back", x.get(0, 6, 0, 1), 0);
    }

    /** What comes first along the edges is not what comes first in order. */
    private static void runSorts() {
        ThreeValues x = fresh();
        int half = x.formula(0, 2, 0, 0, 0);
        int zero = x.formula(0, 0, 0, 0, 0);
        x.edge(0, 1, NONE, 0);
        x.change(0, 0, half);
        x.edge(0, 1, NONE, 0);
        x.change(1, 0, 0);
        x.edge(0, 1, NONE, 0);
        x.change(2, 0, zero);
        x.start(0, 0);
        check.due("run", x.run(), 4);
        for (int i = 0; i < 3; i++) {
            check.yes("show", x.show(1, i, 1));
            check.due("in order", x.get(1, 0, 0, 0), i);
        }
    }

    private static void sixIndividuals() {
        ThreeValues x = fresh();
        x.edge(0, 0, NONE, 0);
        x.universe(0, 6);
        for (int u = 0; u < 6; u++) {
            x.put(0, 4, u, 0, u % 3);
            x.put(0, 5, u, 0, u / 3);
        }
        check.due("start", x.start(0, 0), 1);
        check.due("the same", x.start(0, 0), 1);
        check.due("run", x.run(), 1);
        x.show(0, 0, 0);
        check.due("size", x.size(0), 6);
        x.put(0, 7, 5, 5, 1);
        check.due("the last value differs", x.start(0, 0), 2);
        check.due("run", x.run(), 2);
        x.show(0, 1, 1);
        check.due("it is the last", x.get(1, 7, 5, 5), 1);
    }

    private static void runRoundAndRound() {
        ThreeValues x = fresh();
        int flag = x.formula(1, 0, 0, 0, 0);
        int other = x.formula(3, 0, 0, flag, 0);
        for (int point = 0; point < 4; point++) {
            x.edge(point, (point + 1) % 4, NONE, 0);
        }
        x.change(3, 0, other);
        check.due("start", x.start(1, 0), 1);
        check.due("twice round", x.run(), 8);
        for (int point = 0; point < 4; point++) {
            check.due("recorded", x.recorded(point), 2);
        }
        check.due("run again", x.run(), 8);
    }

    /** Each of the edges makes two of one, and the last leads back to a point on the way. */
    private static void runTooMany() {
        ThreeValues x = fresh();
        x.edge(0, 1, 2, 0);
        x.edge(1, 2, 3, 0);
        x.edge(2, 3, 4, 0);
        x.edge(3, 1, 5, 0);
        one(x, 80);
        check.due("start", x.start(0, 0), 1);
        check.due("2 and then 16 at point 1", x.run(), UNKNOWN);
        check.due("only what was started", x.recorded(0), 1);
        for (int point = 1; point < 4; point++) {
            check.due("only what was started", x.recorded(point), 0);
        }
        one(x, 79);
        check.due("start", x.start(0, 0), 2);
        check.due("still", x.run(), UNKNOWN);
        check.due("only what was started", x.recorded(0), 2);
    }

    private static void runExactlyTwelve() {
        ThreeValues x = fresh();
        x.edge(0, 1, 2, 0);
        x.edge(1, 2, 3, 0);
        x.edge(2, 3, 4, 0);
        for (int i = 0; i < 3; i++) {
            one(x, 78 + i);
            check.due("start", x.start(0, 0), i + 1);
        }
        check.due("3, 6, 12, 24", x.run(), UNKNOWN);
        ThreeValues y = fresh();
        y.edge(0, 1, 2, 0);
        y.edge(1, 2, 3, 0);
        y.edge(2, 3, NONE, 0);
        for (int i = 0; i < 3; i++) {
            one(y, 78 + i);
            y.start(0, 0);
        }
        check.due("3, 6, 12, 12", y.run(), 33);
        check.due("12", y.recorded(2), 12);
        check.due("12", y.recorded(3), 12);
        y.universe(0, 0);
        check.due("start with another", y.start(3, 0), 1);
        check.due("13", y.run(), UNKNOWN);
        check.due("only what was started", y.recorded(0), 3);
        check.due("only what was started", y.recorded(2), 0);
        check.due("only what was started", y.recorded(3), 1);
    }

    private static void runUnknownApplication() {
        ThreeValues x = fresh();
        x.edge(0, 1, NONE + CREATE, 0);
        for (int p = 2; p < 6; p++) {
            x.change(0, p, x.formula(1, p, 0, 0, 0));
        }
        x.universe(0, 6);
        for (int u = 0; u < 6; u++) {
            x.put(0, 2, u, 0, u % 3);
            x.put(0, 3, u, 0, u / 3);
        }
        x.edge(0, 2, NONE, 0);
        x.start(0, 0);
        check.due("a seventh", x.run(), UNKNOWN);
        check.due("only what was started", x.recorded(2), 0);
        check.due("only what was started", x.recorded(0), 1);
        x.universe(0, 5);
        for (int u = 0; u < 5; u++) {
            x.put(0, 2, u, 0, u % 3);
            x.put(0, 3, u, 0, u / 3);
        }
        x.start(3, 0);
        check.due("still", x.run(), UNKNOWN);
        check.due("nothing of point 3 is in its way", x.recorded(3), 1);
    }

    private static void recordedStays() {
        ThreeValues x = fresh();
        int never = x.formula(0, 0, 0, 0, 0);
        x.edge(0, 1, NONE, 0);
        x.universe(0, 1);
        x.start(0, 0);
        check.due("run", x.run(), 2);
        x.universe(0, 3);
        x.rule(0, 2, 1);
        x.edge(1, 2, NONE, never);
        x.change(0, 0, 0);
        x.formula(1, 0, 0, 0, 0);
        x.apply(0, 0);
        check.due("stays", x.recorded(0), 1);
        check.due("stays", x.recorded(1), 1);
        check.yes("show", x.show(1, 0, 2));
        check.due("stays", x.size(2), 1);
        check.due("stays", x.get(2, 0, 0, 0), 0);
        check.due("stays", x.get(2, 2, 0, 0), 0);
        check.due("the next run has the rule", x.run(), 1);
        check.due("nothing at 1", x.recorded(1), 0);
    }

    private static void runAfterMoreEdges() {
        ThreeValues x = fresh();
        x.start(0, 0);
        check.due("no edges", x.run(), 1);
        x.edge(0, 3, NONE, 0);
        check.due("one edge", x.run(), 2);
        x.edge(3, 2, NONE, 0);
        x.change(1, 1, 0);
        check.due("two edges", x.run(), 3);
        x.show(2, 0, 1);
        check.due("p1", x.get(1, 1, 0, 0), 1);
        x.edge(2, 0, NONE, 0);
        check.due("round", x.run(), 5);
        check.due("at 0", x.recorded(0), 2);
        check.due("at 2", x.recorded(2), 1);
        check.due("at 3", x.recorded(3), 2);
    }

    private static void showRefused() {
        ThreeValues x = new ThreeValues();
        x.universe(0, 2);
        check.no("nothing there", x.show(0, 0, 1));
        x.start(0, 0);
        check.no("point -1", x.show(-1, 0, 1));
        check.no("point 4", x.show(4, 0, 1));
        check.no("structure -1", x.show(0, -1, 1));
        check.no("structure 1", x.show(0, 1, 1));
        check.no("slot -1", x.show(0, 0, -1));
        check.no("slot 4", x.show(0, 0, 4));
        check.no("other point", x.show(1, 0, 1));
        check.due("nothing came", x.size(1), 0);
        check.yes("show", x.show(0, 0, 1));
        check.due("it came", x.size(1), 1);
    }

    private static void knownJoins() {
        ThreeValues x = fresh();
        int flag = x.formula(1, 0, 0, 0, 0);
        int[][] rows = {{0, 0, 0}, {0, 1, 2}, {1, 0, 2}, {1, 1, 1}, {2, 0, 2}, {1, 2, 2}, {2, 2, 2}};
        for (int[] row : rows) {
            ThreeValues y = new ThreeValues();
            y.formula(1, 0, 0, 0, 0);
            y.put(0, 0, 0, 0, row[0]);
            y.start(2, 0);
            check.due("of one", y.known(2, 0), row[0]);
            y.universe(0, 1);
            y.put(0, 0, 0, 0, row[1]);
            y.start(2, 0);
            check.due("of two", y.known(2, 0), row[2]);
        }
        x.edge(0, 1, NONE, 0);
        x.change(0, 0, 0);
        x.start(0, 0);
        check.due("nothing at 1 yet", x.known(1, flag), BAD);
        x.run();
        check.due("set on the way", x.known(1, flag), 1);
        check.due("not before", x.known(0, flag), 0);
        x.edge(1, 0, NONE, 0);
        x.run();
        check.due("both at 0", x.known(0, flag), 2);
    }

    private static void knownRefused() {
        ThreeValues x = fresh();
        int open = x.formula(1, 2, 0, 0, 0);
        int closed = x.formula(7, 0, 0, open, 0);
        check.due("nothing there", x.known(0, 0), BAD);
        x.universe(0, 1);
        x.start(0, 0);
        check.due("known", x.known(0, closed), 0);
        check.due("point -1", x.known(-1, 0), BAD);
        check.due("point 4", x.known(4, 0), BAD);
        check.due("formula -1", x.known(0, -1), BAD);
        check.due("formula 3", x.known(0, 3), BAD);
        check.due("free variable", x.known(0, open), BAD);
        check.due("other point", x.known(1, 0), BAD);
    }
}
