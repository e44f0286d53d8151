import java.util.ArrayList;
import java.util.Collections;
import java.util.List;
import java.util.TreeSet;

/**
 * The document once more, written as literally and as slowly as it reads, so that the two can be held
 * against each other.
 */
final class Plain {
    static final int BAD = -1, FULL = -2, UNKNOWN = -3;
    static final int[] PLACES = {0, 0, 1, 1, 1, 1, 2, 2, 2};
    static final int[] RANK = {0, 2, 1};

    static final class Unknown extends Exception {
        private static final long serialVersionUID = 1;
    }

    static final class Shape implements Comparable<Shape> {
        int n;
        boolean[] sum = new boolean[7];
        int[][][] v = new int[8][7][7];

        Shape copy() {
            Shape t = new Shape();
            t.n = n;
            t.sum = sum.clone();
            for (int p = 0; p < 8; p++) for (int u = 0; u < 7; u++) t.v[p][u] = v[p][u].clone();
            return t;
        }

        int get(int p, int u, int w) {
            if (p == 8) return u != w ? 0 : sum[u] ? 2 : 1;
            return PLACES[p] == 0 ? v[p][0][0] : PLACES[p] == 1 ? v[p][u][0] : v[p][u][w];
        }

        void put(int p, int u, int w, int x) {
            if (PLACES[p] == 0) v[p][0][0] = x;
            else if (PLACES[p] == 1) v[p][u][0] = x;
            else v[p][u][w] = x;
        }

        List<Integer> row() {
            List<Integer> r = new ArrayList<>();
            r.add(n);
            r.add(get(0, 0, 0));
            r.add(get(1, 0, 0));
            for (int u = 0; u < n; u++) {
                r.add(sum[u] ? 1 : 0);
                for (int p = 2; p < 6; p++) r.add(get(p, u, 0));
            }
            for (int u = 0; u < n; u++)
                for (int w = 0; w < n; w++)
                    for (int p = 6; p < 8; p++) r.add(get(p, u, w));
            return r;
        }

        @Override
        public int compareTo(Shape o) {
            List<Integer> a = row(), b = o.row();
            for (int i = 0; i < Math.min(a.size(), b.size()); i++) {
                int c = Integer.compare(a.get(i), b.get(i));
                if (c != 0) return c;
            }
            return 0;
        }
    }

    static final class F {
        int kind, a, b, c, d;
    }

    static final class R {
        int f, p, c;
    }

    static final class E {
        int from, to, p, q, create, pre;
        List<int[]> changes = new ArrayList<>();
    }

    final Shape[] slots = {new Shape(), new Shape(), new Shape(), new Shape()};
    final List<F> fs = new ArrayList<>();
    final List<R> rs = new ArrayList<>();
    final List<E> es = new ArrayList<>();
    List<Shape> pile = new ArrayList<>();
    final List<TreeSet<Shape>> started = new ArrayList<>();
    final List<TreeSet<Shape>> recorded = new ArrayList<>();

    Plain() {
        for (int i = 0; i < 4; i++) {
            started.add(new TreeSet<>());
            recorded.add(new TreeSet<>());
        }
    }

    static boolean in(int x, int lo, int hi) {
        return lo <= x && x <= hi;
    }

    boolean slot(int s) {
        return in(s, 0, 3);
    }

    boolean universe(int s, int n) {
        if (!slot(s) || !in(n, 0, 6)) return false;
        Shape t = new Shape();
        t.n = n;
        t.put(0, 0, 0, slots[s].get(0, 0, 0));
        t.put(1, 0, 0, slots[s].get(1, 0, 0));
        slots[s] = t;
        return true;
    }

    boolean summary(int s, int u, boolean on) {
        if (!slot(s) || !in(u, 0, slots[s].n - 1)) return false;
        slots[s].sum[u] = on;
        return true;
    }

    boolean reach(int s, int p, int u, int w) {
        if (PLACES[p] >= 1 && !in(u, 0, slots[s].n - 1)) return false;
        return PLACES[p] < 2 || in(w, 0, slots[s].n - 1);
    }

    boolean put(int s, int p, int u, int w, int value) {
        if (!slot(s) || !in(p, 0, 7) || !in(value, 0, 2) || !reach(s, p, u, w)) return false;
        slots[s].put(p, u, w, value);
        return true;
    }

    int get(int s, int p, int u, int w) {
        if (!slot(s) || !in(p, 0, 8) || !reach(s, p, u, w)) return BAD;
        return slots[s].get(p, u, w);
    }

    int size(int s) {
        return slot(s) ? slots[s].n : BAD;
    }

    int depth(int f) {
        F x = fs.get(f);
        if (x.kind <= 2) return 0;
        if (x.kind == 4 || x.kind == 5) return 1 + Math.max(depth(x.c), depth(x.d));
        return 1 + depth(x.c);
    }

    boolean closes(int f) {
        F x = fs.get(f);
        if (x.kind == 8) return true;
        if (x.kind <= 2) return false;
        return closes(x.c) || (x.kind == 4 || x.kind == 5) && closes(x.d);
    }

    int formula(int kind, int a, int b, int c, int d) {
        if (!in(kind, 0, 8)) return BAD;
        boolean needC = kind >= 3, needD = kind == 4 || kind == 5;
        if (needC && !in(c, 0, fs.size() - 1)) return BAD;
        if (needD && !in(d, 0, fs.size() - 1)) return BAD;
        if (kind == 0 && !in(a, 0, 2)) return BAD;
        if (kind == 1) {
            if (!in(a, 0, 7)) return BAD;
            if (PLACES[a] >= 1 && !in(b, 0, 5)) return BAD;
            if (PLACES[a] == 2 && !in(c, 0, 5)) return BAD;
        }
        if (kind == 2 && (!in(b, 0, 5) || !in(c, 0, 5))) return BAD;
        if ((kind == 6 || kind == 7 || kind == 8) && !in(a, 0, 5)) return BAD;
        if (kind == 8 && !in(b, 0, 5)) return BAD;
        if (needC && depth(c) >= 4) return BAD;
        if (needD && depth(d) >= 4) return BAD;
        if (kind == 8 && closes(c)) return BAD;
        if (fs.size() == 40) return FULL;
        F x = new F();
        x.kind = kind;
        x.a = a;
        x.b = b;
        x.c = c;
        x.d = d;
        fs.add(x);
        return fs.size() - 1;
    }

    int free(int f) {
        if (!in(f, 0, fs.size() - 1)) return BAD;
        F x = fs.get(f);
        switch (x.kind) {
            case 0: return 0;
            case 1: return PLACES[x.a] == 0 ? 0 : PLACES[x.a] == 1 ? 1 << x.b : (1 << x.b) | (1 << x.c);
            case 2: return (1 << x.b) | (1 << x.c);
            case 3: return free(x.c);
            case 4: case 5: return free(x.c) | free(x.d);
            case 6: case 7: return free(x.c) & ~(1 << x.a);
            default: return (free(x.c) & ~0x30) | (1 << x.a) | (1 << x.b);
        }
    }

    static int and(int x, int y) {
        return RANK[x] < RANK[y] ? x : y;
    }

    static int or(int x, int y) {
        return RANK[x] > RANK[y] ? x : y;
    }

    int eval(Shape s, int f, int[] env) {
        F x = fs.get(f);
        switch (x.kind) {
            case 0: return x.a;
            case 1:
                return PLACES[x.a] == 0 ? s.get(x.a, 0, 0) : PLACES[x.a] == 1 ? s.get(x.a, env[x.b], 0)
                    : s.get(x.a, env[x.b], env[x.c]);
            case 2: return s.get(8, env[x.b], env[x.c]);
            case 3: return new int[] {1, 0, 2}[eval(s, x.c, env)];
            case 4: return and(eval(s, x.c, env), eval(s, x.d, env));
            case 5: return or(eval(s, x.c, env), eval(s, x.d, env));
            case 6: case 7: {
                int r = x.kind == 6 ? 0 : 1;
                for (int u = 0; u < s.n; u++) {
                    int[] e = env.clone();
                    e[x.a] = u;
                    r = x.kind == 6 ? or(r, eval(s, x.c, e)) : and(r, eval(s, x.c, e));
                }
                return r;
            }
            default: return closure(s, x, env);
        }
    }

    int closure(Shape s, F x, int[] env) {
        int[][] r = new int[s.n][s.n];
        for (int u = 0; u < s.n; u++)
            for (int w = 0; w < s.n; w++) {
                int[] e = env.clone();
                e[4] = u;
                e[5] = w;
                r[u][w] = eval(s, x.c, e);
            }
        int[][] t = new int[s.n][s.n];
        for (boolean again = true; again;) {
            again = false;
            for (int u = 0; u < s.n; u++)
                for (int w = 0; w < s.n; w++) {
                    int best = r[u][w];
                    for (int m = 0; m < s.n; m++) best = or(best, and(t[u][m], r[m][w]));
                    if (best != t[u][w]) {
                        t[u][w] = best;
                        again = true;
                    }
                }
        }
        return t[env[x.a]][env[x.b]];
    }

    int value(int s, int f, int x, int y) {
        if (!slot(s) || !in(f, 0, fs.size() - 1)) return BAD;
        int fr = free(f);
        if ((fr & ~3) != 0) return BAD;
        if ((fr & 1) != 0 && !in(x, 0, slots[s].n - 1)) return BAD;
        if ((fr & 2) != 0 && !in(y, 0, slots[s].n - 1)) return BAD;
        return eval(slots[s], f, new int[] {x, y, -1, -1, -1, -1});
    }

    static int joinAll(List<Integer> xs) {
        int r = xs.get(0);
        for (int x : xs) if (x != r) return 2;
        return r;
    }

    static Shape blurred(Shape s) {
        Shape t = new Shape();
        t.put(0, 0, 0, s.get(0, 0, 0));
        t.put(1, 0, 0, s.get(1, 0, 0));
        List<List<Integer>> groups = new ArrayList<>();
        for (int key = 0; key < 81; key++) {
            List<Integer> g = new ArrayList<>();
            for (int u = 0; u < s.n; u++)
                if (s.get(2, u, 0) * 27 + s.get(3, u, 0) * 9 + s.get(4, u, 0) * 3 + s.get(5, u, 0) == key) g.add(u);
            if (!g.isEmpty()) groups.add(g);
        }
        t.n = groups.size();
        for (int i = 0; i < t.n; i++) {
            List<Integer> g = groups.get(i);
            t.sum[i] = g.size() > 1;
            for (int u : g) t.sum[i] |= s.sum[u];
            for (int p = 2; p < 6; p++) t.put(p, i, 0, s.get(p, g.get(0), 0));
            for (int j = 0; j < t.n; j++)
                for (int p = 6; p < 8; p++) {
                    List<Integer> xs = new ArrayList<>();
                    for (int u : g) for (int w : groups.get(j)) xs.add(s.get(p, u, w));
                    t.put(p, i, j, joinAll(xs));
                }
        }
        return t;
    }

    int blur(int s) {
        if (!slot(s)) return BAD;
        slots[s] = blurred(slots[s]);
        return slots[s].n;
    }

    boolean embeds(int s, int t) {
        if (!slot(s) || !slot(t)) return false;
        Shape a = slots[s], b = slots[t];
        if (b.n == 0 && a.n > 0) return false;
        int total = 1;
        for (int i = 0; i < a.n; i++) total *= b.n;
        for (int code = 0; code < total; code++) {
            int[] g = new int[6];
            int rest = code;
            for (int i = 0; i < a.n; i++) {
                g[i] = rest % b.n;
                rest /= b.n;
            }
            if (embedsBy(a, b, g)) return true;
        }
        return false;
    }

    static boolean covered(int x, int y) {
        return x == y || y == 2;
    }

    static boolean embedsBy(Shape a, Shape b, int[] g) {
        int[] hits = new int[6];
        for (int p = 0; p < 2; p++) if (!covered(a.get(p, 0, 0), b.get(p, 0, 0))) return false;
        for (int u = 0; u < a.n; u++) {
            hits[g[u]]++;
            if (a.sum[u] && !b.sum[g[u]]) return false;
            for (int p = 2; p < 6; p++) if (!covered(a.get(p, u, 0), b.get(p, g[u], 0))) return false;
            for (int w = 0; w < a.n; w++)
                for (int p = 6; p < 8; p++) if (!covered(a.get(p, u, w), b.get(p, g[u], g[w]))) return false;
        }
        for (int u = 0; u < b.n; u++) if (hits[u] == 0 || hits[u] > 1 && !b.sum[u]) return false;
        return true;
    }

    int rule(int f, int p, int c) {
        if (!in(f, 0, fs.size() - 1) || (free(f) & ~3) != 0 || !in(p, 2, 8) || !in(c, 0, 1)) return BAD;
        if (rs.size() == 6) return FULL;
        R r = new R();
        r.f = f;
        r.p = p;
        r.c = c;
        rs.add(r);
        return rs.size();
    }

    /** One step at a time, the last rule and the last individuals first; null when impossible. */
    Shape coerced(Shape from) {
        Shape s = from.copy();
        again:
        while (true) {
            for (int i = rs.size() - 1; i >= 0; i--) {
                R r = rs.get(i);
                for (int u = s.n - 1; u >= 0; u--)
                    for (int w = s.n - 1; w >= 0; w--) {
                        if (eval(s, r.f, new int[] {u, w, -1, -1, -1, -1}) != 1) continue;
                        int is = s.get(r.p, u, w);
                        if (is == r.c) continue;
                        if (is != 2) return null;
                        if (r.p == 8) {
                            if (r.c == 0) return null;
                            s.sum[u] = false;
                        } else {
                            s.put(r.p, u, w, r.c);
                        }
                        continue again;
                    }
            }
            return s;
        }
    }

    boolean coerce(int s) {
        if (!slot(s)) return false;
        Shape t = coerced(slots[s]);
        if (t == null) return false;
        slots[s] = t;
        return true;
    }

    int edge(int from, int to, int what, int pre) {
        if (!in(from, 0, 3) || !in(to, 0, 3)) return BAD;
        boolean told = false;
        E e = new E();
        for (int p = 2; p < 16; p++)
            for (int q = 0; q < 16; q++)
                for (int k = 0; k < 2; k++)
                    if (what == p + 16 * q + 256 * k && (p < 8 || p == 15) && (p != 6 && p != 7 || in(q, 2, 5))) {
                        told = true;
                        e.p = p;
                        e.q = q;
                        e.create = k;
                    }
        if (!told || !in(pre, 0, fs.size() - 1) || free(pre) != 0) return BAD;
        if (es.size() == 8) return FULL;
        e.from = from;
        e.to = to;
        e.pre = pre;
        es.add(e);
        return es.size() - 1;
    }

    int change(int e, int p, int f) {
        if (!in(e, 0, es.size() - 1) || !in(p, 0, 7) || !in(f, 0, fs.size() - 1)) return BAD;
        if ((free(f) & ~((1 << PLACES[p]) - 1)) != 0) return BAD;
        if (es.get(e).changes.size() == 4) return FULL;
        es.get(e).changes.add(new int[] {p, f});
        return es.get(e).changes.size();
    }

    static Shape split(Shape s, int x) throws Unknown {
        if (s.n == 6) throw new Unknown();
        Shape t = s.copy();
        t.n = s.n + 1;
        t.sum[s.n] = true;
        for (int u = 0; u < t.n; u++) {
            int from = u == s.n ? x : u;
            for (int p = 2; p < 6; p++) t.put(p, u, 0, s.get(p, from, 0));
            for (int w = 0; w < t.n; w++)
                for (int p = 6; p < 8; p++) t.put(p, u, w, s.get(p, from, w == s.n ? x : w));
        }
        return t;
    }

    /** Goes on to the end even when there are too many, but not beyond what a test can bear. */
    static void focus(E e, Shape s, List<Shape> out) throws Unknown {
        int row = -1, half = -1;
        if (e.p < 6) {
            for (int u = s.n - 1; u >= 0; u--) if (s.get(e.p, u, 0) == 2) half = u;
        } else if (e.p < 8) {
            for (int u = s.n - 1; u >= 0; u--) if (s.get(e.q, u, 0) == 1 && !s.sum[u]) row = u;
            if (row >= 0) for (int w = s.n - 1; w >= 0; w--) if (s.get(e.p, row, w) == 2) half = w;
        }
        if (half < 0) {
            out.add(s);
            if (out.size() > 40) throw new Unknown();
            return;
        }
        for (int k = 0; k < 2; k++) {
            Shape t = s.copy();
            t.put(e.p, e.p < 6 ? half : row, half, k);
            focus(e, t, out);
        }
        if (s.sum[half]) {
            Shape t = split(s, half);
            t.put(e.p, e.p < 6 ? half : row, half, 0);
            t.put(e.p, e.p < 6 ? s.n : row, s.n, 1);
            focus(e, t, out);
        }
    }

    List<Shape> applied(E e, Shape s) throws Unknown {
        List<Shape> focused = new ArrayList<>(), out = new ArrayList<>();
        focus(e, s.copy(), focused);
        for (Shape t : focused) {
            if (eval(t, e.pre, new int[] {-1, -1, -1, -1, -1, -1}) == 0) continue;
            if (e.create == 1) {
                if (t.n == 6) throw new Unknown();
                for (int u = 0; u < t.n; u++) t.put(5, u, 0, 0);
                t.sum[t.n] = false;
                for (int p = 2; p < 6; p++) t.put(p, t.n, 0, p == 5 ? 1 : 0);
                for (int u = 0; u <= t.n; u++)
                    for (int p = 6; p < 8; p++) {
                        t.put(p, u, t.n, 0);
                        t.put(p, t.n, u, 0);
                    }
                t.n++;
            }
            Shape after = t.copy();
            for (int[] c : e.changes)
                for (int u = 0; u < (PLACES[c[0]] < 1 ? 1 : t.n); u++)
                    for (int w = 0; w < (PLACES[c[0]] < 2 ? 1 : t.n); w++)
                        after.put(c[0], u, w, eval(t, c[1], new int[] {u, w, -1, -1, -1, -1}));
            after = coerced(after);
            if (after != null) out.add(after);
        }
        Collections.sort(out);
        return out;
    }

    int apply(int e, int s) {
        if (!in(e, 0, es.size() - 1) || !slot(s)) return BAD;
        try {
            pile = applied(es.get(e), slots[s]);
            return pile.size();
        } catch (Unknown u) {
            return UNKNOWN;
        }
    }

    boolean pile(int i, int s) {
        if (!in(i, 0, pile.size() - 1) || !slot(s)) return false;
        slots[s] = pile.get(i).copy();
        return true;
    }

    void reset() {
        for (int i = 0; i < 4; i++) recorded.set(i, new TreeSet<>(started.get(i)));
    }

    int start(int point, int s) {
        if (!in(point, 0, 3) || !slot(s)) return BAD;
        Shape b = blurred(slots[s]);
        if (started.get(point).size() == 12 && !started.get(point).contains(b)) return FULL;
        started.get(point).add(b);
        reset();
        return started.get(point).size();
    }

    int run() {
        reset();
        try {
            for (boolean again = true; again;) {
                again = false;
                for (E e : es)
                    for (Shape s : new ArrayList<>(recorded.get(e.from)))
                        for (Shape t : applied(e, s)) {
                            again |= recorded.get(e.to).add(blurred(t));
                            if (recorded.get(e.to).size() > 12) throw new Unknown();
                        }
            }
        } catch (Unknown u) {
            reset();
            return UNKNOWN;
        }
        int sum = 0;
        for (TreeSet<Shape> t : recorded) sum += t.size();
        return sum;
    }

    int recorded(int point) {
        return in(point, 0, 3) ? recorded.get(point).size() : BAD;
    }

    boolean show(int point, int i, int s) {
        if (!in(point, 0, 3) || !slot(s) || !in(i, 0, recorded.get(point).size() - 1)) return false;
        slots[s] = new ArrayList<>(recorded.get(point)).get(i).copy();
        return true;
    }

    int known(int point, int f) {
        if (!in(point, 0, 3) || !in(f, 0, fs.size() - 1) || free(f) != 0) return BAD;
        List<Integer> xs = new ArrayList<>();
        for (Shape s : recorded.get(point)) xs.add(eval(s, f, new int[] {-1, -1, -1, -1, -1, -1}));
        return xs.isEmpty() ? BAD : joinAll(xs);
    }
}
