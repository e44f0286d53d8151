/** The examples of README.md answer what their comments say. */
final class ReadmeTest {
    private static final Check check = new Check("ReadmeTest");

    public static void main(String[] args) {
        everMore();
        alongList();
        check.end();
    }

    private static void everMore() {
        ThreeValues x = new ThreeValues();
        int yes = x.formula(0, 1, 0, 0, 0);
        int newest = x.formula(1, 5, 0, 0, 0);
        int edge = x.edge(0, 0, 15 + 256, yes);
        x.change(edge, 2, newest);
        x.start(0, 0);
        check.due("none, one, two and many", x.run(), 4);
        check.yes("the last", x.show(0, 3, 1));
        check.due("one or more", x.get(1, 8, 0, 0), 2);
        for (int i = 0; i < 4; i++) {
            x.show(0, i, 2);
            check.due("individuals of " + i, x.size(2), Math.min(i, 2));
        }
    }

    private static void alongList() {
        ThreeValues x = new ThreeValues();
        x.universe(0, 2);
        x.put(0, 2, 0, 0, 1);
        x.summary(0, 1, true);
        x.put(0, 6, 0, 1, 2);
        x.put(0, 6, 1, 1, 2);

        int yes = x.formula(0, 1, 0, 0, 0);
        int here = x.formula(1, 2, 1, 0, 0);
        int next = x.formula(1, 6, 1, 0, 0);
        int step = x.formula(6, 1, 0, x.formula(4, 0, 0, here, next), 0);

        int one = x.formula(1, 6, 2, 0, 0);
        int other = x.formula(1, 6, 2, 1, 0);
        check.due("rule", x.rule(x.formula(6, 2, 0, x.formula(4, 0, 0, one, other), 0), 8, 1), 1);

        int edge = x.edge(0, 1, 6 + 16 * 2, yes);
        x.change(edge, 2, step);
        check.due("not known before focusing", x.value(0, step, 1, 0), 2);
        check.due("outcomes", x.apply(edge, 0), 3);
        x.pile(0, 1);
        check.due("all the rest is next", x.get(1, 6, 0, 1), 1);
        x.pile(1, 1);
        check.due("nothing is next", x.get(1, 6, 0, 1), 0);
        x.pile(2, 1);
        check.due("the rest was split", x.size(1), 3);
        check.due("one of the rest is next", x.get(1, 2, 2, 0), 1);
        check.due("a single one", x.get(1, 8, 2, 2), 1);
    }
}
