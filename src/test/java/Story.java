import java.util.ArrayList;
import java.util.Arrays;
import java.util.List;

/** A run of calls on a new object that is there for one sentence of the document. */
final class Story {
    static final int NO = 0;
    static final int YES = 1;
    static final int BAD = ThreeValues.BAD;
    static final int FULL = ThreeValues.FULL;
    static final int UNKNOWN = ThreeValues.UNKNOWN;

    /** Something of all that an object can have, so that a change of any of it is seen. */
    static final String[] ALL_KINDS = {
        "formula(0, 1, 0, 0, 0)", "formula(1, 2, 0, 0, 0)", "formula(6, 0, 0, 1, 0)", "formula(1, 6, 0, 1, 0)",
        "formula(0, 0, 0, 0, 0)", "formula(1, 2, 2, 0, 0)", "formula(1, 0, 0, 0, 0)",
        "rule(1, 3, 1)", "rule(3, 7, 1)",
        "edge(0, 1, 2, 0)", "change(0, 4, 1)", "change(0, 0, 2)",
        "edge(1, 2, 271, 2)", "change(1, 3, 0)", "edge(2, 2, 38, 6)",
        "universe(0, 2)", "summary(0, 1, true)", "put(0, 2, 1, 0, 2)", "put(0, 3, 1, 0, 2)", "put(0, 6, 0, 1, 1)",
        "put(0, 7, 0, 1, 2)", "put(0, 1, 0, 0, 2)",
        "universe(1, 1)", "put(1, 2, 0, 0, 1)", "put(1, 3, 0, 0, 1)",
        "put(2, 0, 0, 0, 1)",
        "universe(3, 3)", "put(3, 2, 0, 0, 1)", "put(3, 3, 0, 0, 2)", "put(3, 6, 1, 2, 1)", "put(3, 7, 1, 2, 2)",
        "summary(3, 2, true)", "put(3, 5, 2, 0, 2)",
        "start(0, 0)", "start(1, 2)", "start(3, 1)", "run()", "apply(0, 0)",
        "put(0, 2, 0, 0, 2)", "put(0, 7, 1, 1, 2)"};

    private final Check check;
    private final String sentence;
    private final List<Call> run = new ArrayList<>();
    private final ThreeValues x = new ThreeValues();
    private int calls = 0;

    Story(Check check, String sentence, String... calls) {
        this.check = check;
        this.sentence = sentence;
        make(calls);
    }

    /** Numbers that are out of a range: next to its ends, far away, and like its first one in their last bits. */
    static int[] outOf(int first, int last) {
        int[] near = {first - 1, last + 1, Integer.MIN_VALUE, Integer.MAX_VALUE};
        int[] alike = {first + 64, first + 256, first + 65536, first - 64, Integer.MIN_VALUE + first};
        int[] all = Arrays.copyOf(near, near.length + alike.length);
        System.arraycopy(alike, 0, all, near.length, alike.length);
        return all;
    }

    static String[] with(String[] calls, String... more) {
        String[] all = Arrays.copyOf(calls, calls.length + more.length);
        System.arraycopy(more, 0, all, calls.length, more.length);
        return all;
    }

    static int[] range(int first, int last) {
        int[] all = new int[Math.max(0, last - first + 1)];
        for (int i = 0; i < all.length; i++) {
            all[i] = first + i;
        }
        return all;
    }

    /** Calls that lead to what is tested: none of them may be refused. */
    void make(String... texts) {
        for (Call call : Call.all(texts)) {
            int answer = ask(call);
            run.add(call);
            check.yes(told(call) + " (answered " + answer + ") is not refused", answer >= (call.answersYesOrNo() ? 1 : 0));
        }
    }

    /** The answer of a call that is not refused; # in it stands for each of the numbers in turn. */
    void due(int want, String text, int... numbers) {
        for (Call call : each(text, numbers)) {
            check.due(told(call), ask(call), want);
            run.add(call);
        }
    }

    /** The answer of a call that changes nothing, be it that it is refused or that it only looks. */
    void still(int want, String text, int... numbers) {
        List<String> was = Sight.after(run);
        for (Call call : each(text, numbers)) {
            check.due(told(call), ask(call), want);
            List<Call> further = new ArrayList<>(run);
            further.add(call);
            nothingNew(told(call), was, Sight.after(further));
        }
    }

    /** That nothing differs, as far as can be seen, from what another run leads to. */
    void sameAs(String... others) {
        nothingNew("the run: " + sentence, Sight.after(Call.all(others)), Sight.after(run));
    }

    private void nothingNew(String after, List<String> was, List<String> is) {
        String difference = Sight.difference(was, is);
        check.yes(after + " changes nothing" + (difference == null ? "" : ": " + difference), difference == null);
    }

    private int ask(Call call) {
        calls++;
        check.yes("no more than 512 calls: " + sentence, calls <= 512);
        return call.on(x);
    }

    private String told(Call call) {
        return "[" + sentence + "] " + call.text;
    }

    private static List<Call> each(String text, int... numbers) {
        if (numbers.length == 0) {
            return Call.all(text);
        }
        List<Call> calls = new ArrayList<>();
        for (int number : numbers) {
            calls.add(new Call(text.replace("#", Integer.toString(number))));
        }
        return calls;
    }
}
