import java.util.ArrayList;
import java.util.List;

/**
 * All that can be seen of an object after a run of calls. Looking spoils an object (what is recorded is
 * seen only in a slot, a rule only by what it does), so the run is made anew, on a new object, wherever
 * the next look needs what an earlier one has spoilt, or the 512 calls would be used up.
 */
final class Sight {
    private static final int MOST_CALLS = 512;
    private static final int SLOT_CALLS = 110;
    /** There is never more to be seen than so many: looking ends even if the class is wrong. */
    private static final int MOST_FORMULAS = 40;
    private static final int MOST_PILED = 40;
    private static final int MOST_RECORDED = 12;
    private static final int MOST_EDGES = 8;
    private final List<Call> run;
    private final List<String> seen = new ArrayList<>();
    private ThreeValues x;
    private int calls;
    private int formulas = 0;
    private int closed = -1;
    private int edges = 0;

    private Sight(List<Call> run) {
        this.run = run;
    }

    static List<String> after(List<Call> run) {
        Sight sight = new Sight(run);
        sight.renew();
        sight.lookAtSlots();
        sight.lookAtFormulas();
        sight.lookAtKnown();
        sight.lookAtPile();
        sight.lookAtRecorded(run);
        sight.lookAtRules();
        sight.lookAtEdges();
        List<Call> further = new ArrayList<>(run);
        further.add(new Call("run()"));
        sight.lookAtRecorded(further);
        return sight.seen;
    }

    /** The first that differs, or null. */
    static String difference(List<String> was, List<String> is) {
        for (int i = 0; i < was.size() && i < is.size(); i++) {
            if (!was.get(i).equals(is.get(i))) {
                return is.get(i) + ", before it was " + was.get(i);
            }
        }
        return was.size() == is.size() ? null : "more or less is to be seen than before";
    }

    private void renew() {
        renew(run);
    }

    private void renew(List<Call> from) {
        x = new ThreeValues();
        for (Call call : from) {
            call.on(x);
        }
        calls = from.size();
    }

    private void haveRoom(int more) {
        haveRoom(more, run);
    }

    private void haveRoom(int more, List<Call> from) {
        if (calls + more > MOST_CALLS) {
            renew(from);
        }
        if (calls + more > MOST_CALLS) {
            throw new IllegalStateException("the run is too long to be looked at");
        }
    }

    private int ask(String call) {
        int answer = new Call(call).on(x);
        calls++;
        seen.add(call + " -> " + answer);
        return answer;
    }

    private void lookAtSlot(int s) {
        int n = Math.min(ask("size(" + s + ")"), 6);
        for (int p = 0; p < 9; p++) {
            for (int u = 0; u < (p < 2 ? 1 : n); u++) {
                for (int w = p == 8 ? u : 0; w < (p < 6 ? 1 : p == 8 ? u + 1 : n); w++) {
                    ask("get(" + s + ", " + p + ", " + u + ", " + w + ")");
                }
            }
        }
    }

    private void lookAtSlots() {
        for (int s = 0; s < 4; s++) {
            haveRoom(SLOT_CALLS);
            lookAtSlot(s);
        }
    }

    private void lookAtFormulas() {
        haveRoom(MOST_FORMULAS + 1);
        int free = ask("free(0)");
        while (free >= 0 && formulas < MOST_FORMULAS) {
            closed = free == 0 && closed < 0 ? formulas : closed;
            formulas++;
            free = ask("free(" + formulas + ")");
        }
        for (int s = 0; s < 4; s++) {
            haveRoom(formulas);
            for (int f = 0; f < formulas; f++) {
                ask("value(" + s + ", " + f + ", 0, 0)");
            }
        }
    }

    private void lookAtKnown() {
        for (int point = 0; point < 4; point++) {
            haveRoom(formulas);
            for (int f = 0; f < formulas; f++) {
                ask("known(" + point + ", " + f + ")");
            }
        }
    }

    private void lookAtPile() {
        haveRoom(SLOT_CALLS);
        for (int i = 0; ask("pile(" + i + ", 0)") == 1 && i < MOST_PILED; i++) {
            lookAtSlot(0);
            haveRoom(SLOT_CALLS);
        }
    }

    private void lookAtRecorded(List<Call> from) {
        renew(from);
        for (int point = 0; point < 4; point++) {
            haveRoom(SLOT_CALLS, from);
            ask("recorded(" + point + ")");
            for (int i = 0; ask("show(" + point + ", " + i + ", 0)") == 1 && i < MOST_RECORDED; i++) {
                lookAtSlot(0);
                haveRoom(SLOT_CALLS, from);
            }
        }
    }

    /** What the rules do, and how many there are. */
    private void lookAtRules() {
        renew();
        for (int s = 0; s < 4; s++) {
            haveRoom(SLOT_CALLS);
            ask("coerce(" + s + ")");
            lookAtSlot(s);
        }
        if (closed >= 0) {
            haveRoom(1);
            ask("rule(" + closed + ", 2, 1)");
        }
    }

    /** What the edges do, how many there are and how many changes they have. */
    private void lookAtEdges() {
        renew();
        while (ask("apply(" + edges + ", 0)") != ThreeValues.BAD && edges < MOST_EDGES) {
            edges++;
        }
        for (int e = 0; e < edges; e++) {
            for (int s = 0; s < 4; s++) {
                lookAtOutcome(e, s);
            }
        }
        if (closed >= 0) {
            renew();
            for (int e = 0; e < edges; e++) {
                ask("change(" + e + ", 0, " + closed + ")");
            }
            ask("edge(0, 0, 15, " + closed + ")");
        }
    }

    /** The first and the last that come out. */
    private void lookAtOutcome(int e, int s) {
        renew();
        int count = ask("apply(" + e + ", " + s + ")");
        for (int i = 0; i < count; i += count > 1 ? count - 1 : 1) {
            ask("pile(" + i + ", 0)");
            lookAtSlot(0);
        }
    }
}
