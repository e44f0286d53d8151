/** Promises 10 and 11: blur, embeds. */
final class ShapeTest {
    private static final Check check = new Check("ShapeTest");

    public static void main(String[] args) {
        blurMerges();
        blurOrders();
        blurKeepsApart();
        blurEdges();
        embedsItself();
        embedsNullary();
        embedsUnary();
        embedsBinary();
        embedsSummaries();
        embedsReachesAll();
        embedsBlurred();
        embedsRefused();
        check.end();
    }

    /** 0 and 2 are alike, 1 is another; a pair's value is joined over all members, also with themselves. */
    private static void blurMerges() {
        ThreeValues x = new ThreeValues();
        x.universe(0, 3);
        x.put(0, 0, 0, 0, 2);
        x.put(0, 1, 0, 0, 1);
        x.put(0, 2, 1, 0, 1);
        x.put(0, 6, 0, 1, 1);
        x.put(0, 6, 2, 1, 1);
        x.put(0, 6, 1, 0, 1);
        x.put(0, 7, 0, 0, 1);
        x.put(0, 7, 0, 2, 1);
        x.put(0, 7, 2, 0, 1);
        x.put(0, 7, 2, 2, 1);
        x.put(0, 6, 0, 2, 1);
        check.due("blur", x.blur(0), 2);
        check.due("size", x.size(0), 2);
        check.due("merged is a summary", x.get(0, 8, 0, 0), 2);
        check.due("the other is none", x.get(0, 8, 1, 1), 1);
        check.due("p0 stays", x.get(0, 0, 0, 0), 2);
        check.due("p1 stays", x.get(0, 1, 0, 0), 1);
        check.due("p2", x.get(0, 2, 0, 0), 0);
        check.due("p2", x.get(0, 2, 1, 0), 1);
        check.due("both had 1", x.get(0, 6, 0, 1), 1);
        check.due("one had 1", x.get(0, 6, 1, 0), 2);
        check.due("one pair of four had 1", x.get(0, 6, 0, 0), 2);
        check.due("all four had 1", x.get(0, 7, 0, 0), 1);
        check.due("none had 1", x.get(0, 6, 1, 1), 0);
        check.due("blur again", x.blur(0), 2);
        check.due("stays", x.get(0, 6, 1, 0), 2);
        check.due("stays a summary", x.get(0, 8, 0, 0), 2);
        check.due("stays none", x.get(0, 8, 1, 1), 1);
        x.universe(0, 3);
        check.due("left over cells are empty", x.get(0, 6, 2, 1), 0);
    }

    /** The numbers are 27, 9, 3, 1, 2 * 1 and 0: the individuals come out by them. */
    private static void blurOrders() {
        ThreeValues x = new ThreeValues();
        x.universe(1, 6);
        x.put(1, 2, 0, 0, 1);
        x.put(1, 3, 1, 0, 1);
        x.put(1, 4, 2, 0, 1);
        x.put(1, 5, 3, 0, 1);
        x.put(1, 5, 4, 0, 2);
        x.summary(1, 3, true);
        int[] place = {5, 4, 3, 1, 2, 0};
        for (int u = 0; u < 6; u++) {
            x.put(1, 6, u, (u + 1) % 6, 1);
            x.put(1, 7, 0, u, u % 3);
        }
        check.due("blur", x.blur(1), 6);
        check.due("p2", x.get(1, 2, 5, 0), 1);
        check.due("p3", x.get(1, 3, 4, 0), 1);
        check.due("p4", x.get(1, 4, 3, 0), 1);
        check.due("p5", x.get(1, 5, 1, 0), 1);
        check.due("p5", x.get(1, 5, 2, 0), 2);
        for (int u = 0; u < 6; u++) {
            check.due("summaries go with", x.get(1, 8, place[u], place[u]), u == 3 ? 2 : 1);
            check.due("p7 goes with", x.get(1, 7, 5, place[u]), u % 3);
            for (int w = 0; w < 6; w++) {
                check.due("p6 goes with", x.get(1, 6, place[u], place[w]), w == (u + 1) % 6 ? 1 : 0);
            }
        }
    }

    private static void blurKeepsApart() {
        for (int p = 2; p < 6; p++) {
            ThreeValues x = new ThreeValues();
            x.universe(0, 3);
            x.put(0, p, 0, 0, 2);
            x.put(0, p, 1, 0, 1);
            check.due("0, 1 and half are three", x.blur(0), 3);
            for (int u = 0; u < 3; u++) {
                check.due("in order", x.get(0, p, u, 0), u);
                check.due("no summary", x.get(0, 8, u, u), 1);
            }
        }
        ThreeValues x = new ThreeValues();
        x.universe(0, 2);
        x.summary(0, 1, true);
        x.put(0, 6, 0, 1, 1);
        check.due("summaries and pairs do not keep apart", x.blur(0), 1);
        check.due("summary", x.get(0, 8, 0, 0), 2);
        check.due("joined", x.get(0, 6, 0, 0), 2);
    }

    private static void blurEdges() {
        ThreeValues x = new ThreeValues();
        check.due("none", x.blur(0), 0);
        x.universe(0, 1);
        check.due("one", x.blur(0), 1);
        check.due("one is no summary", x.get(0, 8, 0, 0), 1);
        x.summary(0, 0, true);
        check.due("one", x.blur(0), 1);
        check.due("one summary stays one", x.get(0, 8, 0, 0), 2);
        x.universe(0, 6);
        check.due("six alike", x.blur(0), 1);
        check.due("six alike are a summary", x.get(0, 8, 0, 0), 2);
        check.due("slot 4", x.blur(4), ThreeValues.BAD);
        check.due("slot -1", x.blur(-1), ThreeValues.BAD);
    }

    private static void embedsItself() {
        ThreeValues x = new ThreeValues();
        check.yes("empty in empty", x.embeds(0, 1));
        x.universe(0, 6);
        for (int u = 0; u < 6; u++) {
            x.put(0, 2 + u % 4, u, 0, 1 + u % 2);
            x.put(0, 6, u, (u * 2 + 1) % 6, 1);
            x.summary(0, u, u % 3 == 0);
        }
        check.yes("itself", x.embeds(0, 0));
        check.no("something in nothing", x.embeds(0, 1));
        check.no("nothing in something", x.embeds(1, 0));
    }

    private static void embedsNullary() {
        for (int p = 0; p < 2; p++) {
            ThreeValues x = new ThreeValues();
            for (int inner = 0; inner < 3; inner++) {
                for (int outer = 0; outer < 3; outer++) {
                    x.put(0, p, 0, 0, inner);
                    x.put(1, p, 0, 0, outer);
                    check.due("covering", x.embeds(0, 1) ? 1 : 0, inner == outer || outer == 2 ? 1 : 0);
                }
            }
        }
    }

    private static void embedsUnary() {
        for (int p = 2; p < 6; p++) {
            ThreeValues x = new ThreeValues();
            x.universe(0, 2);
            x.universe(1, 2);
            x.put(0, p, 0, 0, 1);
            x.put(1, p, 1, 0, 1);
            check.yes("turned about", x.embeds(0, 1));
            x.put(0, p, 1, 0, 2);
            check.no("half in 0", x.embeds(0, 1));
            x.put(1, p, 0, 0, 2);
            check.yes("half in half", x.embeds(0, 1));
            x.put(0, p, 0, 0, 0);
            check.no("0 in half, but half not in 1", x.embeds(0, 1));
        }
    }

    private static void embedsBinary() {
        for (int p = 6; p < 8; p++) {
            ThreeValues x = new ThreeValues();
            x.universe(0, 3);
            x.universe(1, 3);
            x.put(0, p, 0, 1, 1);
            x.put(0, p, 1, 2, 1);
            x.put(1, p, 2, 0, 1);
            check.no("a chain in a step", x.embeds(0, 1));
            check.no("a step in a chain", x.embeds(1, 0));
            x.put(1, p, 0, 1, 2);
            check.yes("a chain in a half chain", x.embeds(0, 1));
            check.no("a half chain in a chain", x.embeds(1, 0));
            x.put(0, p, 2, 2, 1);
            check.no("a loop in none", x.embeds(0, 1));
            x.put(1, p, 1, 1, 1);
            check.yes("a loop in a loop", x.embeds(0, 1));
            x.put(1, p, 1, 0, 1);
            check.no("0 in 1", x.embeds(0, 1));
        }
    }

    private static void embedsSummaries() {
        ThreeValues x = new ThreeValues();
        x.universe(0, 2);
        x.universe(1, 1);
        check.no("two in one that is no summary", x.embeds(0, 1));
        x.summary(1, 0, true);
        check.yes("two in a summary", x.embeds(0, 1));
        x.summary(0, 1, true);
        check.yes("a summary in a summary", x.embeds(0, 1));
        x.universe(2, 2);
        check.no("a summary in no summary", x.embeds(0, 2));
        x.summary(2, 0, true);
        check.yes("a summary in the summary", x.embeds(0, 2));
        x.universe(0, 1);
        check.yes("one in a summary", x.embeds(0, 1));
        x.put(1, 6, 0, 0, 1);
        check.no("with another value", x.embeds(0, 1));
        x.universe(0, 2);
        x.put(0, 6, 0, 0, 1);
        x.put(0, 6, 0, 1, 1);
        x.put(0, 6, 1, 1, 1);
        check.no("one value of four differs", x.embeds(0, 1));
        x.put(0, 6, 1, 0, 1);
        check.yes("none differs", x.embeds(0, 1));
    }

    private static void embedsReachesAll() {
        ThreeValues x = new ThreeValues();
        x.universe(0, 3);
        x.universe(1, 3);
        for (int u = 0; u < 3; u++) {
            x.summary(1, u, true);
        }
        check.yes("all are reached", x.embeds(0, 1));
        x.put(1, 3, 2, 0, 1);
        check.no("2 is not reached", x.embeds(0, 1));
        x.put(0, 3, 0, 0, 1);
        check.yes("2 is reached", x.embeds(0, 1));
        x.universe(0, 2);
        x.universe(1, 3);
        check.no("two cannot reach three", x.embeds(0, 1));
    }

    private static void embedsBlurred() {
        ThreeValues x = new ThreeValues();
        for (int s = 0; s < 2; s++) {
            x.universe(s, 6);
            for (int u = 0; u < 6; u++) {
                x.put(s, 4, u, 0, u % 3);
                x.put(s, 6, u, (u + 2) % 6, 1);
                x.put(s, 7, 5 - u, u, 2);
            }
        }
        check.due("blur", x.blur(1), 3);
        check.yes("in what it was blurred to", x.embeds(0, 1));
        check.no("not the other way", x.embeds(1, 0));
    }

    private static void embedsRefused() {
        ThreeValues x = new ThreeValues();
        check.no("slot -1", x.embeds(-1, 0));
        check.no("slot 4", x.embeds(4, 0));
        check.no("in slot -1", x.embeds(0, -1));
        check.no("in slot 4", x.embeds(0, 4));
        check.no("no slots", x.embeds(4, 4));
    }
}
