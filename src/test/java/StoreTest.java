/** Promises 1 to 6: a new object, universe, summary, put, get, size. */
final class StoreTest {
    private static final int[] WRONG_SLOTS = {-1, 4, Integer.MAX_VALUE, Integer.MIN_VALUE};
    private static final Check check = new Check("StoreTest");

    public static void main(String[] args) {
        newObject();
        universe();
        summary();
        putAndGet();
        putRefused();
        getRefused();
        slotsApart();
        check.end();
    }

    private static void newObject() {
        ThreeValues x = new ThreeValues();
        for (int s = 0; s < 4; s++) {
            check.due("new size", x.size(s), 0);
            check.due("new get p0", x.get(s, 0, 0, 0), 0);
            check.due("new get p1", x.get(s, 1, 0, 0), 0);
            check.due("new recorded", x.recorded(s), 0);
        }
        check.due("new free(0)", x.free(0), ThreeValues.BAD);
        check.due("new value", x.value(0, 0, 0, 0), ThreeValues.BAD);
        check.due("new rule", x.rule(0, 2, 1), ThreeValues.BAD);
        check.due("new edge", x.edge(0, 0, 15, 0), ThreeValues.BAD);
        check.due("new change", x.change(0, 0, 0), ThreeValues.BAD);
        check.due("new apply", x.apply(0, 0), ThreeValues.BAD);
        check.no("new pile", x.pile(0, 0));
        check.no("new show", x.show(0, 0, 0));
        check.due("new known", x.known(0, 0), ThreeValues.BAD);
        check.due("new run", x.run(), 0);
        check.yes("new coerce", x.coerce(0));
        check.due("BAD", ThreeValues.BAD, -1);
        check.due("FULL", ThreeValues.FULL, -2);
        check.due("UNKNOWN", ThreeValues.UNKNOWN, -3);
    }

    private static void universe() {
        ThreeValues x = new ThreeValues();
        check.yes("universe 6", x.universe(3, 6));
        check.due("size 6", x.size(3), 6);
        x.put(3, 0, 0, 0, 1);
        x.put(3, 1, 0, 0, 2);
        for (int u = 0; u < 6; u++) {
            x.summary(3, u, true);
            for (int p = 2; p < 8; p++) {
                for (int w = 0; w < 6; w++) {
                    x.put(3, p, u, w, 2);
                }
            }
        }
        for (int s : WRONG_SLOTS) {
            check.no("universe wrong slot", x.universe(s, 2));
        }
        check.no("universe -1", x.universe(3, -1));
        check.no("universe 7", x.universe(3, 7));
        check.due("refused universe", x.size(3), 6);
        check.due("refused universe", x.get(3, 7, 5, 5), 2);
        check.yes("universe anew", x.universe(3, 6));
        for (int u = 0; u < 6; u++) {
            check.due("no summary", x.get(3, 8, u, u), 1);
            for (int p = 2; p < 8; p++) {
                for (int w = 0; w < 6; w++) {
                    check.due("all 0", x.get(3, p, u, w), 0);
                }
            }
        }
        check.due("p0 stays", x.get(3, 0, 0, 0), 1);
        check.due("p1 stays", x.get(3, 1, 0, 0), 2);
        check.yes("universe 0", x.universe(3, 0));
        check.due("size 0", x.size(3), 0);
        check.due("p0 stays", x.get(3, 0, 0, 0), 1);
        for (int s : WRONG_SLOTS) {
            check.due("size wrong slot", x.size(s), ThreeValues.BAD);
        }
    }

    private static void summary() {
        ThreeValues x = new ThreeValues();
        check.no("summary of none", x.summary(0, 0, true));
        x.universe(0, 2);
        check.yes("summary on", x.summary(0, 1, true));
        check.due("same of a summary", x.get(0, 8, 1, 1), 2);
        check.due("same of no summary", x.get(0, 8, 0, 0), 1);
        check.due("same of two", x.get(0, 8, 0, 1), 0);
        check.due("same of two", x.get(0, 8, 1, 0), 0);
        check.no("summary 2", x.summary(0, 2, false));
        check.no("summary -1", x.summary(0, -1, false));
        for (int s : WRONG_SLOTS) {
            check.no("summary wrong slot", x.summary(s, 0, true));
        }
        check.due("refused summary", x.get(0, 8, 1, 1), 2);
        check.yes("summary off", x.summary(0, 1, false));
        check.due("no summary", x.get(0, 8, 1, 1), 1);
        check.yes("summary off again", x.summary(0, 1, false));
        check.due("no summary", x.get(0, 8, 1, 1), 1);
    }

    /** Each value is put where no other is, so that a mixed up place is seen. */
    private static void putAndGet() {
        for (int p = 0; p < 8; p++) {
            ThreeValues x = new ThreeValues();
            x.universe(1, 6);
            check.yes("put", x.put(1, p, 2, 4, 2));
            check.yes("put", x.put(1, p, 5, 0, 1));
            check.due("get", x.get(1, p, 5, 0), 1);
            check.due("get", x.get(1, p, 2, 4), p < 2 ? 1 : 2);
            check.due("get of the other w", x.get(1, p, 2, 3), p < 2 ? 1 : p < 6 ? 2 : 0);
            check.due("get turned about", x.get(1, p, 4, 2), p < 2 ? 1 : 0);
            for (int q = 0; q < 8; q++) {
                check.due("get of another predicate", x.get(1, q, 5, 0), q == p ? 1 : 0);
            }
            for (int u = 0; u < 6; u++) {
                check.due("put makes no summary", x.get(1, 8, u, u), 1);
            }
            check.yes("put 0", x.put(1, p, 5, 0, 0));
            check.due("get 0", x.get(1, p, 5, 0), 0);
        }
        ThreeValues x = new ThreeValues();
        check.yes("p0 needs no individual", x.put(0, 0, -7, 99, 2));
        check.due("p0 needs no individual", x.get(0, 0, 99, -7), 2);
        check.yes("p1 needs no individual", x.put(0, 1, 6, 6, 1));
        check.due("p1 needs no individual", x.get(0, 1, 6, 6), 1);
        x.universe(0, 1);
        check.yes("p5 needs one", x.put(0, 5, 0, 99, 1));
        check.due("p5 needs one", x.get(0, 5, 0, -99), 1);
    }

    private static void putRefused() {
        ThreeValues x = new ThreeValues();
        x.universe(0, 2);
        for (int s : WRONG_SLOTS) {
            check.no("put wrong slot", x.put(s, 0, 0, 0, 1));
        }
        check.no("put p -1", x.put(0, -1, 0, 0, 1));
        check.no("put p 8", x.put(0, 8, 0, 0, 1));
        check.no("put value 3", x.put(0, 0, 0, 0, 3));
        check.no("put value -1", x.put(0, 0, 0, 0, -1));
        check.no("put u 2", x.put(0, 2, 2, 0, 1));
        check.no("put u -1", x.put(0, 5, -1, 0, 1));
        check.no("put u 2", x.put(0, 6, 2, 0, 1));
        check.no("put w 2", x.put(0, 6, 0, 2, 1));
        check.no("put w -1", x.put(0, 7, 1, -1, 1));
        for (int p = 0; p < 8; p++) {
            for (int u = 0; u < 2; u++) {
                for (int w = 0; w < 2; w++) {
                    check.due("refused put", x.get(0, p, u, w), 0);
                }
            }
        }
        x.universe(0, 3);
        check.due("refused put out of sight", x.get(0, 2, 2, 0), 0);
    }

    private static void getRefused() {
        ThreeValues x = new ThreeValues();
        x.universe(2, 2);
        for (int s : WRONG_SLOTS) {
            check.due("get wrong slot", x.get(s, 0, 0, 0), ThreeValues.BAD);
        }
        check.due("get p -1", x.get(2, -1, 0, 0), ThreeValues.BAD);
        check.due("get p 9", x.get(2, 9, 0, 0), ThreeValues.BAD);
        for (int p = 2; p < 9; p++) {
            check.due("get u 2", x.get(2, p, 2, 0), ThreeValues.BAD);
            check.due("get u -1", x.get(2, p, -1, 0), ThreeValues.BAD);
            check.due("get w 2", x.get(2, p, 0, 2), p < 6 ? 0 : ThreeValues.BAD);
            check.due("get w -1", x.get(2, p, 0, -1), p < 6 ? 0 : ThreeValues.BAD);
        }
    }

    private static void slotsApart() {
        ThreeValues x = new ThreeValues();
        ThreeValues y = new ThreeValues();
        for (int s = 0; s < 4; s++) {
            x.universe(s, s + 1);
            x.put(s, 0, 0, 0, s % 3);
            x.put(s, 6, s, 0, 2);
        }
        for (int s = 0; s < 4; s++) {
            check.due("size", x.size(s), s + 1);
            check.due("p0", x.get(s, 0, 0, 0), s % 3);
            check.due("p6", x.get(s, 6, s, 0), 2);
            check.due("another object", y.size(s), 0);
        }
    }
}
