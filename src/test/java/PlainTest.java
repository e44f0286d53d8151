import java.util.ArrayList;
import java.util.List;
import java.util.Random;

/**
 * Holds ThreeValues against Plain in many runs of chosen calls; the choice has a fixed seed, so each
 * time the same runs are made. All promises, right and wrong inputs. An argument sets how many runs.
 */
final class PlainTest {
    private static final int CALLS = 512;
    private final Random random;
    private final ThreeValues real = new ThreeValues();
    private final Plain plain = new Plain();
    private final List<String> told = new ArrayList<>();
    private int calls = 0;
    private boolean wrong = false;
    private static final int[] answers = new int[32];

    private PlainTest(long seed) {
        random = new Random(seed);
    }

    private int upTo(int n) {
        return random.nextInt(n);
    }

    /** Mostly 0 .. n - 1, sometimes beyond. */
    private int near(int n) {
        int r = upTo(60);
        if (r == 0) return n;
        if (r == 1) return -1;
        if (r == 2) return random.nextInt();
        return n <= 0 ? 0 : upTo(n);
    }

    private int same(String call, int got, int want) {
        calls++;
        told.add(call + " -> " + got);
        if (got != want && !wrong) {
            wrong = true;
            for (String t : told) System.out.println(t);
            System.out.println("due was " + want);
        }
        return want;
    }

    private void same(String call, boolean got, boolean want) {
        same(call, got ? 1 : 0, want ? 1 : 0);
    }

    private void compareSlot(int s) {
        if (s < 0 || s > 3 || calls > CALLS - 160) return;
        int n = same("size(" + s + ")", real.size(s), plain.size(s));
        for (int p = 0; p < 9; p++)
            for (int u = 0; u < (p < 2 ? 1 : n); u++)
                for (int w = 0; w < (p < 6 ? 1 : n); w++)
                    if (p < 8 || u == w)
                        same("get(" + s + "," + p + "," + u + "," + w + ")", real.get(s, p, u, w), plain.get(s, p, u, w));
    }

    private int someValue(int halves) {
        return upTo(10) < halves ? 2 : upTo(3) == 0 ? 1 : 0;
    }

    private void fill(int s, int most) {
        int n = upTo(most + 1);
        same("universe(" + s + "," + n + ")", real.universe(s, n), plain.universe(s, n));
        int halves = upTo(5);
        int density = 1 + upTo(8);
        for (int p = 0; p < 8; p++)
            for (int u = 0; u < (p < 2 ? 1 : n); u++)
                for (int w = 0; w < (p < 6 ? 1 : n); w++)
                    if (upTo(10) < density) put(s, p, u, w, someValue(halves));
        for (int u = 0; u < n; u++) if (upTo(3) == 0) summary(s, u, true);
    }

    private void put(int s, int p, int u, int w, int v) {
        if (calls > CALLS - 200) return;
        same("put(" + s + "," + p + "," + u + "," + w + "," + v + ")", real.put(s, p, u, w, v), plain.put(s, p, u, w, v));
    }

    private void summary(int s, int u, boolean on) {
        same("summary(" + s + "," + u + "," + on + ")", real.summary(s, u, on), plain.summary(s, u, on));
    }

    private void formula(int kind) {
        int count = plain.fs.size();
        int a = kind == 0 ? near(3) : kind == 1 ? near(8) : near(upTo(3) == 0 ? 6 : 3);
        int b = near(upTo(3) == 0 ? 6 : 2);
        int c = kind < 3 ? near(upTo(3) == 0 ? 6 : 2) : near(count);
        int d = near(count);
        if (kind == 1 && upTo(4) == 0) {
            b = 4;
            c = 5;
        }
        same("formula(" + kind + "," + a + "," + b + "," + c + "," + d + ")", real.formula(kind, a, b, c, d),
            plain.formula(kind, a, b, c, d));
        int f = plain.fs.size() - 1;
        same("free(" + f + ")", real.free(f), plain.free(f));
    }

    private int formulaWith(int allowed) {
        for (int tries = 0; tries < 30; tries++) {
            int f = near(plain.fs.size());
            if (upTo(30) == 0 || plain.free(f) >= 0 && (plain.free(f) & ~allowed) == 0) return f;
        }
        return 0;
    }

    private void rule() {
        int f = formulaWith(3), p = 2 + near(7), c = near(2);
        same("rule(" + f + "," + p + "," + c + ")", real.rule(f, p, c), plain.rule(f, p, c));
    }

    private void edge() {
        int from = near(4), to = near(4), f = formulaWith(0);
        int p = upTo(4) == 0 ? 15 : upTo(12) == 0 ? upTo(16) : 2 + upTo(6);
        int what = p + 16 * (upTo(12) == 0 ? upTo(16) : 2 + upTo(4)) + 256 * (upTo(4) == 0 ? 1 : 0);
        if (upTo(30) == 0) what = random.nextInt(1100) - 40;
        same("edge(" + from + "," + to + "," + what + "," + f + ")", real.edge(from, to, what, f),
            plain.edge(from, to, what, f));
    }

    private void change() {
        int e = near(plain.es.size()), p = near(8), f = formulaWith(p < 2 ? 0 : p < 6 ? 1 : 3);
        same("change(" + e + "," + p + "," + f + ")", real.change(e, p, f), plain.change(e, p, f));
    }

    private void apply() {
        int e = near(plain.es.size()), s = near(4);
        int n = same("apply(" + e + "," + s + ")", real.apply(e, s), plain.apply(e, s));
        answers[n < 0 ? 3 + n : n == 0 ? 4 : 5]++;
        for (int i = 0; i < n && i < 3; i++) pile(upTo(n));
    }

    private void pile(int i) {
        int s = near(4);
        same("pile(" + i + "," + s + ")", real.pile(i, s), plain.pile(i, s));
        compareSlot(s);
    }

    private void start() {
        int point = near(4), s = near(4);
        int n = same("start(" + point + "," + s + ")", real.start(point, s), plain.start(point, s));
        if (n == -2) answers[10]++;
    }

    private void run() {
        int total = same("run()", real.run(), plain.run());
        answers[total < 0 ? 6 : total == 0 ? 7 : total < 8 ? 8 : 9]++;
        for (int point = 0; point < 4; point++) recorded(point);
        for (int i = 0; i < 3 && total > 0; i++) show();
    }

    private void recorded(int point) {
        same("recorded(" + point + ")", real.recorded(point), plain.recorded(point));
    }

    private void show() {
        int point = near(4), i = near(Math.max(0, plain.recorded(point))), s = near(4);
        same("show(" + point + "," + i + "," + s + ")", real.show(point, i, s), plain.show(point, i, s));
        compareSlot(s);
    }

    private void known() {
        int point = near(4), f = formulaWith(0);
        int n = same("known(" + point + "," + f + ")", real.known(point, f), plain.known(point, f));
        if (n >= 0) answers[11 + n]++;
    }

    private void value() {
        int s = near(4), f = formulaWith(3);
        int n = s < 0 || s > 3 ? 1 : plain.size(s), x = near(n), y = near(n);
        int v = same("value(" + s + "," + f + "," + x + "," + y + ")", real.value(s, f, x, y), plain.value(s, f, x, y));
        answers[15 + v]++;
    }

    private void embeds() {
        int s = near(4), t = near(4);
        boolean yes = plain.embeds(s, t);
        if (s != t) answers[yes ? 18 : 19]++;
        same("embeds(" + s + "," + t + ")", real.embeds(s, t), yes);
    }

    /** A slot, what it was blurred to, and whether they embed: hardly met by chance. */
    private void embedsBlurred() {
        int s = upTo(4), t = upTo(4);
        same("start(3," + s + ")", real.start(3, s), plain.start(3, s));
        int i = near(Math.max(0, plain.recorded(3)));
        same("show(3," + i + "," + t + ")", real.show(3, i, t), plain.show(3, i, t));
        same("embeds(" + s + "," + t + ")", real.embeds(s, t), plain.embeds(s, t));
        if (plain.size(s) > 0) {
            put(s, 2 + upTo(6), upTo(plain.size(s)), upTo(plain.size(s)), upTo(3));
            same("embeds(" + s + "," + t + ")", real.embeds(s, t), plain.embeds(s, t));
        }
    }

    private void coerce() {
        int s = near(4);
        boolean yes = plain.coerce(s);
        answers[yes ? 20 : 21]++;
        same("coerce(" + s + ")", real.coerce(s), yes);
        compareSlot(s);
    }

    private void blur() {
        int s = near(4);
        same("blur(" + s + ")", real.blur(s), plain.blur(s));
        compareSlot(s);
    }

    private void anyCall() {
        switch (upTo(22)) {
            case 0: fill(upTo(4), 1 + upTo(6)); break;
            case 1: put(near(4), near(8), near(4), near(4), near(3)); break;
            case 2: summary(near(4), near(4), upTo(2) == 0); break;
            case 3: formula(near(9)); break;
            case 4: rule(); break;
            case 5: edge(); break;
            case 6: change(); break;
            case 7: case 8: case 9: apply(); break;
            case 10: pile(near(plain.pile.size())); break;
            case 11: case 12: start(); break;
            case 13: case 14: run(); break;
            case 15: known(); break;
            case 16: case 17: value(); break;
            case 18: embeds(); break;
            case 19: coerce(); break;
            case 20: blur(); break;
            default: embedsBlurred(); break;
        }
    }

    /** As much of all as there can be, and a little more. */
    private void fillUp() {
        while (plain.fs.size() < 40 && calls < 150) formula(upTo(9));
        formula(upTo(9));
        for (int i = upTo(8); i > 0; i--) rule();
        for (int i = 6 + upTo(6); i > 0; i--) edge();
        for (int i = upTo(20); i > 0; i--) change();
    }

    /** Many structures that differ a little, at one point. */
    private void startMany() {
        int point = upTo(4), s = upTo(4);
        same("universe(" + s + ",1)", real.universe(s, 1), plain.universe(s, 1));
        for (int i = 8 + upTo(16); i > 0; i--) {
            put(s, upTo(8), 0, 0, upTo(3));
            int n = same("start(" + point + "," + s + ")", real.start(point, s), plain.start(point, s));
            if (n == -2) answers[10]++;
        }
    }

    private boolean holds() {
        int most = 1 + upTo(4);
        boolean full = upTo(6) == 0;
        for (int s = 0; s < 4; s++) if (upTo(3) != 0) fill(s, most);
        formula(0);
        int count = 3 + upTo(14);
        for (int i = 0; i < count; i++) formula(i < 4 ? 1 : upTo(9));
        for (int i = upTo(4); i > 0; i--) rule();
        for (int i = upTo(5); i > 0; i--) edge();
        for (int i = upTo(8); i > 0; i--) change();
        if (full) fillUp();
        if (upTo(6) == 0) startMany();
        while (calls < CALLS - 40 && !wrong) anyCall();
        return !wrong;
    }

    public static void main(String[] args) {
        int runs = args.length > 0 ? Integer.parseInt(args[0]) : 1500;
        long first = args.length > 1 ? Long.parseLong(args[1]) : 1;
        for (long seed = first; seed < first + runs; seed++) {
            if (!new PlainTest(seed).holds()) {
                System.out.println("PlainTest: run of seed " + seed + " is not as due");
                System.exit(1);
            }
        }
        System.out.println("PlainTest: " + runs + " runs as due");
        if (args.length > 0) System.out.println(java.util.Arrays.toString(answers));
    }
}
