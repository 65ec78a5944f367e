import java.util.ArrayList;
import java.util.Arrays;
import java.util.List;
import java.util.Random;
import java.util.TreeSet;

/** Random walls and runs of calls, compared with a model that lists all climbs by brute force. */
public final class ModelTest {
    private static int wrong = 0;

    public static void main(String[] args) {
        long first = args.length > 0 ? Long.parseLong(args[0]) : 1;
        int runs = args.length > 1 ? Integer.parseInt(args[1]) : 1500;
        for (long seed = first; seed < first + runs && wrong < 20; seed++) {
            new Run(seed).go();
        }
        System.out.println("ModelTest: " + (wrong == 0 ? "all answers are as due" : wrong + " wrong"));
        if (wrong != 0) System.exit(1);
    }

    // ---- a law as a tree, printed and asked apart from the class

    interface Node { String text(); int value(int[] facts); }

    record Num(int n) implements Node {
        public String text() { return "" + n; }
        public int value(int[] f) { return n; }
    }

    static final String[] FACTS = {"dx", "up", "far", "leg", "weight", "wide", "day"};

    record Fact(int i) implements Node {
        public String text() { return FACTS[i]; }
        public int value(int[] f) { return f[i]; }
    }

    record Paren(Node in, String open, String close) implements Node {
        public String text() { return open + in.text() + close; }
        public int value(int[] f) { return in.value(f); }
    }

    record Not(Node in) implements Node {
        public String text() { return "not " + in.text(); }
        public int value(int[] f) { return in.value(f) == 0 ? 1 : 0; }
    }

    record Chain(List<Node> parts, List<String> ops) implements Node {
        public String text() {
            StringBuilder b = new StringBuilder(parts.get(0).text());
            for (int i = 0; i < ops.size(); i++) b.append(' ').append(ops.get(i)).append(' ').append(parts.get(i + 1).text());
            return b.toString();
        }
        public int value(int[] f) {
            long v = parts.get(0).value(f);
            for (int i = 0; i < ops.size(); i++) {
                long w = parts.get(i + 1).value(f);
                v = switch (ops.get(i)) {
                    case "+" -> v + w;
                    case "-" -> v - w;
                    case "*" -> v * w;
                    case "and" -> v != 0 && w != 0 ? 1 : 0;
                    case "or" -> v != 0 || w != 0 ? 1 : 0;
                    case "=" -> v == w ? 1 : 0;
                    case "<" -> v < w ? 1 : 0;
                    default -> v > w ? 1 : 0;
                };
                v = Math.max(-1000000, Math.min(1000000, v));
            }
            return (int) v;
        }
    }

    static Node truth(Random r, int depth) {
        List<Node> p = new ArrayList<>();
        List<String> o = new ArrayList<>();
        p.add(both(r, depth));
        while (r.nextInt(3) == 0) { o.add("or"); p.add(both(r, depth)); }
        return new Chain(p, o);
    }

    static Node both(Random r, int depth) {
        List<Node> p = new ArrayList<>();
        List<String> o = new ArrayList<>();
        p.add(unit(r, depth));
        while (r.nextInt(4) == 0) { o.add("and"); p.add(unit(r, depth)); }
        return new Chain(p, o);
    }

    static Node unit(Random r, int depth) {
        int k = depth >= 6 ? 9 : r.nextInt(10);
        if (k == 0) return new Not(unit(r, depth + 1));
        if (k == 1) return new Paren(truth(r, depth + 1), "[", "]");
        if (k < 6) {
            // A law by which steps of a fair length may be.
            Node far = new Fact(r.nextInt(3));
            Node bound = r.nextBoolean() ? new Fact(3) : new Num(r.nextInt(9));
            return new Chain(List.of(far, bound), List.of(r.nextInt(4) == 0 ? ">" : "<"));
        }
        return new Chain(List.of(sum(r, depth), sum(r, depth)), List.of(new String[] {"=", "<", ">"}[r.nextInt(3)]));
    }

    static Node sum(Random r, int depth) {
        List<Node> p = new ArrayList<>();
        List<String> o = new ArrayList<>();
        p.add(term(r, depth));
        while (r.nextInt(3) == 0) { o.add(r.nextBoolean() ? "+" : "-"); p.add(term(r, depth)); }
        return new Chain(p, o);
    }

    static Node term(Random r, int depth) {
        List<Node> p = new ArrayList<>();
        List<String> o = new ArrayList<>();
        p.add(atom(r, depth));
        while (r.nextInt(4) == 0) { o.add("*"); p.add(atom(r, depth)); }
        return new Chain(p, o);
    }

    static Node atom(Random r, int depth) {
        if (depth < 6 && r.nextInt(6) == 0) return new Paren(sum(r, depth + 1), "(", ")");
        if (r.nextInt(3) == 0) return new Num(r.nextInt(8) == 0 ? r.nextInt(1000) : r.nextInt(12));
        return new Fact(r.nextInt(7));
    }

    // ---- the model

    static final class Told {
        int n, guides, lines, firstDay;
        int[] x = new int[14], y = new int[14], ice = new int[14], leg = new int[5], weight = new int[5];
        boolean[] start = new boolean[14], top = new boolean[14], wide = new boolean[14];
        int[] usedBy = new int[14];
        boolean[] broken = new boolean[14];
        Node law;
        String text;

        boolean middle(int h) { return !start[h] && !top[h]; }
    }

    static final class Now {
        int day, years;
        int[] by = new int[14], since = new int[14];
        boolean[] broken = new boolean[14];

        Now copy() {
            Now c = new Now();
            c.day = day; c.years = years;
            c.by = by.clone(); c.since = since.clone(); c.broken = broken.clone();
            return c;
        }
    }

    static final class Model {
        Told t = new Told();
        Now s = new Now();
        List<Now> past = new ArrayList<>();
        Told[] imageT = new Told[2];
        Now[] imageS = new Now[2];
        long[][] trays = new long[4][];
        int[] sorts = new int[4];

        Model() { Arrays.fill(s.by, -1); Arrays.fill(s.since, -1); }

        void told(Told told) {
            t = told;
            s = new Now();
            s.day = t.firstDay;
            s.by = t.usedBy.clone();
            for (int h = 0; h < 14; h++) s.since[h] = s.by[h] < 0 ? -1 : s.day;
            s.broken = t.broken.clone();
            past.clear();
        }

        boolean there(int h, int day) { return !s.broken[h] && t.ice[h] <= day; }
        boolean open(int h, int day) { return there(h, day) && s.by[h] < 0; }

        int openSet(int day) {
            int set = 0;
            for (int h = 0; h < t.n; h++) if (open(h, day)) set |= 1 << h;
            return set;
        }

        int thereSet() {
            int set = 0;
            for (int h = 0; h < t.n; h++) if (there(h, s.day)) set |= 1 << h;
            return set;
        }

        int middles() {
            int set = 0;
            for (int h = 0; h < t.n; h++) if (t.middle(h)) set |= 1 << h;
            return set;
        }

        boolean steps(int g, int leg, int day, int a, int b) {
            int dx = Math.abs(t.x[a] - t.x[b]), up = t.y[b] - t.y[a], far = dx + Math.abs(up);
            if (t.law == null) return far <= leg;
            return t.law.value(new int[] {dx, up, far, leg, t.weight[g], t.wide[b] ? 1 : 0, day}) != 0;
        }

        boolean[][] stepTable(int g, int leg, int day) {
            boolean[][] m = new boolean[t.n][t.n];
            for (int a = 0; a < t.n; a++) for (int b = 0; b < t.n; b++) m[a][b] = a != b && steps(g, leg, day, a, b);
            return m;
        }

        boolean[][] today(int g) { return stepTable(g, t.leg[g], s.day); }

        /** All climbs, each as its holds; in the order of their numbers. */
        List<int[]> climbs(boolean[][] m, int open) {
            List<int[]> all = new ArrayList<>();
            for (int h = 0; h < t.n; h++) if (t.start[h] && (open >> h & 1) != 0) grow(m, open, new int[] {h}, all);
            return all;
        }

        void grow(boolean[][] m, int open, int[] row, List<int[]> all) {
            int last = row[row.length - 1];
            if (t.top[last]) { all.add(row); return; }
            for (int h = 0; h < t.n; h++) {
                boolean in = false;
                for (int r : row) in |= r == h;
                if (in || (open >> h & 1) == 0 || !m[last][h]) continue;
                int[] more = Arrays.copyOf(row, row.length + 1);
                more[row.length] = h;
                grow(m, open, more, all);
            }
        }

        List<int[]> now(int g) { return climbs(today(g), openSet(s.day)); }

        static int[] shortest(List<int[]> all) {
            int[] best = null;
            for (int[] c : all) if (best == null || c.length < best.length) best = c;
            return best;
        }

        int uses(int[] c) {
            int set = 0;
            for (int h : c) if (t.middle(h)) set |= 1 << h;
            return set;
        }

        int[] wayOf(int g, int open) { return shortest(climbs(today(g), open)); }

        int reach(int g) {
            boolean[][] m = today(g);
            int open = openSet(s.day), set = 0;
            for (int h = 0; h < t.n; h++) if (t.start[h] && (open >> h & 1) != 0) set |= 1 << h;
            for (boolean more = true; more;) {
                more = false;
                for (int a = 0; a < t.n; a++) for (int b = 0; b < t.n; b++)
                    if ((set >> a & 1) != 0 && !t.top[a] && m[a][b] && (open >> b & 1) != 0 && (set >> b & 1) == 0) { set |= 1 << b; more = true; }
            }
            return set;
        }

        int parties(int g, int open) {
            TreeSet<Integer> sets = new TreeSet<>();
            for (int[] c : climbs(today(g), open)) sets.add(uses(c));
            if (sets.contains(0)) return 99;
            return most(new ArrayList<>(sets), 0, 0);
        }

        int most(List<Integer> sets, int from, int gone) {
            int best = 0;
            for (int i = from; i < sets.size(); i++)
                if ((sets.get(i) & gone) == 0) best = Math.max(best, 1 + most(sets, i + 1, gone | sets.get(i)));
            return best;
        }

        /** The number and the least set, or null. */
        int[] shut(int g) {
            List<int[]> all = now(g);
            int[] best = null;
            int mid = middles();
            for (int set = 0; set < 1 << t.n; set++) {
                if ((set & ~mid) != 0) continue;
                boolean closes = true;
                for (int[] c : all) closes &= (uses(c) & set) != 0;
                if (closes && (best == null || Integer.bitCount(set) < best[0])) best = new int[] {Integer.bitCount(set), set};
            }
            return best;
        }

        int needed(int g) {
            List<int[]> all = now(g);
            if (all.isEmpty()) return 0;
            int set = -1;
            for (int[] c : all) set &= uses(c);
            return set;
        }

        int idle(int g) {
            int set = openSet(s.day);
            for (int[] c : now(g)) for (int h : c) set &= ~(1 << h);
            return set;
        }

        int together(int g, int o) {
            TreeSet<Integer> a = new TreeSet<>(), b = new TreeSet<>();
            for (int[] c : now(g)) a.add(uses(c));
            for (int[] c : now(o)) b.add(uses(c));
            for (int p : a) for (int q : b) if ((p & q) == 0) return 1;
            return 0;
        }

        int leastLeg(int g) {
            for (int leg = 0; leg < 100; leg++) if (!climbs(stepTable(g, leg, s.day), openSet(s.day)).isEmpty()) return leg;
            return -1;
        }

        int opens(int g) {
            for (int d = s.day; d < s.day + 200; d++) if (!climbs(stepTable(g, t.leg[g], d), openSet(d)).isEmpty()) return d;
            return -1;
        }

        int dearest(int g) {
            int open = openSet(s.day), all = parties(g, open), best = -1, least = all;
            for (int h = 0; h < t.n; h++) {
                if (!t.middle(h) || (open >> h & 1) == 0) continue;
                int p = parties(g, open & ~(1 << h));
                if (p < least) { least = p; best = h; }
            }
            return best;
        }

        boolean badSet(int set) { return (set & ~(middles() & thereSet())) != 0; }

        int[] ordered(int g, int set) {
            int ends = thereSet() & ~middles();
            List<int[]> just = new ArrayList<>();
            for (int[] c : climbs(today(g), ends | set)) if (uses(c) == set) just.add(c);
            return shortest(just);
        }

        int saved(int g) {
            int best = -1;
            for (int[] c : now(g)) {
                int u = uses(c);
                if (best < 0 || Integer.bitCount(u) < Integer.bitCount(best) || Integer.bitCount(u) == Integer.bitCount(best) && u < best) best = u;
            }
            return best;
        }

        int[] bestTurn;
        int bestUp;

        void inTurn(int set) {
            bestTurn = new int[0];
            bestUp = -1;
            permute(new int[0], set);
        }

        void permute(int[] row, int left) {
            if (left == 0) {
                int open = openSet(s.day), up = 0;
                for (int g : row) {
                    int[] w = wayOf(g, open);
                    if (w != null) { up++; open &= ~uses(w); }
                }
                if (up > bestUp) { bestUp = up; bestTurn = row; }
                return;
            }
            for (int g = 0; g < 5; g++) if ((left >> g & 1) != 0) {
                int[] more = Arrays.copyOf(row, row.length + 1);
                more[row.length] = g;
                permute(more, left & ~(1 << g));
            }
        }

        int countUsed() {
            int n = 0;
            for (int h = 0; h < 14; h++) if (s.by[h] >= 0) n++;
            return n;
        }

        void did(Now was) {
            past.add(was);
            if (past.size() > 10) past.remove(0);
        }

        int use(int g, int set) {
            for (int h = 0; h < 14; h++) if ((set >> h & 1) != 0) { s.by[h] = g; s.since[h] = s.day; }
            return Integer.bitCount(set);
        }

        int goes(int g) {
            int[] w = wayOf(g, openSet(s.day));
            if (w == null) return -5;
            did(s.copy());
            return use(g, uses(w));
        }

        int rainOnce() {
            int h = -1;
            for (int i = 0; i < 14; i++) if (s.by[i] >= 0 && (h < 0 || s.since[i] < s.since[h])) h = i;
            if (h < 0) return 0;
            s.by[h] = -1; s.since[h] = -1;
            return 1;
        }

        int rain(int n) {
            Now was = s.copy();
            int back = 0;
            for (int i = 0; i < n; i++) back += rainOnce();
            if (back > 0) did(was);
            return back;
        }

        int season(int seed, int times) {
            if (times < 1 || times > 40) return -3;
            if (t.guides == 0) return -5;
            Now was = s.copy();
            long x = seed;
            int up = 0;
            boolean some = false;
            for (int i = 0; i < times; i++) {
                x = (1103515245L * x + 12345L) & 0xffffffffL;
                int k = (int) (x >> 16) % 4;
                if (k == 0) { s.day++; some = true; continue; }
                if (k == 3) { some |= rainOnce() > 0; continue; }
                x = (1103515245L * x + 12345L) & 0xffffffffL;
                int g = (int) (x >> 16) % t.guides;
                int[] w = wayOf(g, openSet(s.day));
                if (w != null) { use(g, uses(w)); up++; some = true; }
            }
            if (some) did(was);
            return up;
        }

        /** Place and why, {-1, 0} if it can be. */
        int[] judge(long[] tray) {
            if (tray.length == 0 || tray[0] < 0 || tray[0] >= t.guides) return new int[] {0, 1};
            int g = (int) tray[0];
            for (int i = 1; i < tray.length; i++) {
                long h = tray[i];
                if (h < 0 || h >= t.n) return new int[] {i, 1};
                if (!open((int) h, s.day)) return new int[] {i, 2};
                for (int j = 1; j < i; j++) if (tray[j] == h) return new int[] {i, 2};
                if (i == 1 ? !t.start[(int) h] : t.top[(int) tray[i - 1]] || !steps(g, t.leg[g], s.day, (int) tray[i - 1], (int) h)) return new int[] {i, 3};
            }
            if (tray.length == 1 || !t.top[(int) tray[tray.length - 1]]) return new int[] {tray.length, 4};
            return new int[] {-1, 0};
        }

        int toldSet(long[] tray) {
            int set = 0;
            for (int i = 1; i < tray.length; i++) if (t.middle((int) tray[i])) set |= 1 << (int) tray[i];
            return set;
        }

        static long cut(int sort, long v) {
            int bits = 64 - (8 << sort);
            return v << bits >> bits;
        }
    }

    // ---- one run

    static final class Run {
        final long seed;
        final Random r;
        final FootholdWall x = new FootholdWall();
        final Model m = new Model();
        int calls = 0;

        Run(long seed) { this.seed = seed; r = new Random(seed * 7919); }

        void due(String call, long got, long want) {
            calls++;
            if (got != want && wrong++ < 20)
                System.out.println("seed " + seed + ": " + call + " answered " + got + ", due is " + want + " on " + m.t.text);
        }

        void go() {
            int walls = 1 + r.nextInt(2);
            for (int w = 0; w < walls; w++) {
                Told t = tell(seed % 3 == 0 ? 9 : 8);
                feed(t.text);
                due("wall", x.wall(t.text.length()), t.lines);
                m.told(t);
                state();
                for (int i = 0; i < 10 && calls < 480; i++) {
                    act();
                    ask(1 + r.nextInt(12));
                }
                state();
            }
        }

        void feed(String text) {
            byte[] b = Arrays.copyOf(text.getBytes(), (text.length() + 19) / 20 * 20);
            int[] v = new int[5];
            for (int i = 0; i < b.length; i += 20) {
                for (int k = 0; k < 5; k++) {
                    int at = i + 4 * k;
                    v[k] = (b[at] & 255) << 24 | (b[at + 1] & 255) << 16 | (b[at + 2] & 255) << 8 | b[at + 3] & 255;
                }
                due("feed", x.feed(v[0], v[1], v[2], v[3], v[4]), i + 20);
            }
        }

        Told tell(int most) {
            Told t = new Told();
            do {
                t = new Told();
                Arrays.fill(t.usedBy, -1);
                StringBuilder b = new StringBuilder();
                int size = 2 + r.nextInt(6);
                int holds = r.nextInt(20) == 0 ? r.nextInt(3) : most - r.nextInt(most - 2);
                int guides = r.nextInt(20) == 0 ? 0 : 1 + r.nextInt(4);
                int startShare = 2 + r.nextInt(5), topShare = 2 + r.nextInt(5);
                boolean late = r.nextInt(3) == 0;
                if (!late) law(t, b);
                if (r.nextInt(4) == 0) { t.firstDay = r.nextInt(30); line(t, b, "day " + t.firstDay); }
                int startAt = holds == 0 ? 0 : r.nextInt(holds), topAt = holds == 0 ? 0 : r.nextInt(holds);
                boolean tall = r.nextInt(4) > 0;
                int height = 3 + r.nextInt(2);
                for (int h = 0; h < holds; h++) {
                    boolean start = h == startAt || r.nextInt(startShare * 3) == 0, top = h == topAt && (!tall || !start) || r.nextInt(topShare * 3) == 0;
                    t.x[h] = r.nextInt(tall ? 2 + h % 2 : size);
                    // On a tall wall starts are low, tops are high, and most steps go up by one or two.
                    t.y[h] = !tall ? r.nextInt(size) : r.nextInt(19) == 0 ? r.nextInt(height * 2) : start ? 0 : top ? height : 1 + r.nextInt(height - 1);
                    hold(t, b, h, start, top);
                }
                t.n = holds;
                for (int g = 0; g < guides; g++) {
                    t.leg[g] = tall ? 2 + r.nextInt(2) : r.nextInt(9);
                    t.weight[g] = r.nextInt(2) == 0 ? 0 : r.nextInt(12);
                    line(t, b, "guide leg " + t.leg[g] + (t.weight[g] > 0 || r.nextBoolean() ? " weight " + t.weight[g] : ""));
                }
                t.guides = guides;
                for (int k = r.nextInt(5); k > 0 && holds > 0; k--) usedOrBroken(t, b);
                if (late) law(t, b);
                if (r.nextInt(4) == 0) { t.firstDay = r.nextInt(4); line(t, b, "day " + t.firstDay); }
                t.text = b.toString();
            } while (t.text.length() > 900);
            return t;
        }

        void usedOrBroken(Told t, StringBuilder b) {
            int h = r.nextInt(t.n);
            if (r.nextInt(5) == 0) {
                t.broken[h] = true;
                t.usedBy[h] = -1;
                line(t, b, "broken " + h);
            } else if (t.guides > 0 && t.middle(h)) {
                t.usedBy[h] = r.nextInt(t.guides);
                line(t, b, "used " + h + " by " + t.usedBy[h]);
            }
        }

        void law(Told t, StringBuilder b) {
            if (r.nextInt(5) == 0) {
                t.law = truth(r, 0);
                line(t, b, "step : " + t.law.text());
            }
        }

        void hold(Told t, StringBuilder b, int h, boolean start, boolean top) {
            String s = "hold " + t.x[h] + " " + t.y[h];
            if (top && r.nextInt(30) > 0) { t.top[h] = true; s += " top"; }
            if (r.nextInt(5) == 0) { t.wide[h] = true; s += " wide"; }
            if (start && (!top || r.nextInt(8) == 0) && r.nextInt(30) > 0) { t.start[h] = true; s += " start"; }
            if (r.nextInt(12) == 0) {
                if (r.nextInt(3) == 0) s += " ice " + r.nextInt(1000);
                t.ice[h] = r.nextInt(5) == 0 ? 190 + r.nextInt(30) : r.nextInt(8);
                s += " ice " + t.ice[h];
            }
            line(t, b, s);
        }

        void line(Told t, StringBuilder b, String s) {
            String gap = r.nextInt(4) == 0 ? " \n " : "";
            b.append(s).append(gap).append(';').append(r.nextInt(3) == 0 ? "\n" : "");
            t.lines++;
        }

        int someGuide() { return r.nextInt(15) == 0 ? (r.nextBoolean() ? -1 : m.t.guides) : r.nextInt(Math.max(1, m.t.guides)); }
        int someHold() { return r.nextInt(15) == 0 ? (r.nextBoolean() ? -1 : m.t.n) : r.nextInt(Math.max(1, m.t.n)); }
        boolean guide(int g) { return g >= 0 && g < m.t.guides; }
        boolean hold(int h) { return h >= 0 && h < m.t.n; }

        void state() {
            due("count(0)", x.count(0), m.t.n);
            due("count(1)", x.count(1), m.t.guides);
            due("count(2)", x.count(2), m.s.day);
            due("count(3)", x.count(3), m.s.years);
            due("count(4)", x.count(4), m.countUsed());
            due("count(5)", x.count(5), Integer.bitCount(m.openSet(m.s.day)));
            due("count(6)", x.count(6), m.past.size());
            due("count(7)", x.count(7), 0);
            due("count(8)", x.count(8), m.t.lines);
            int broken = 0;
            for (boolean b : m.s.broken) broken += b ? 1 : 0;
            due("count(9)", x.count(9), broken);
            for (int h = 0; h < m.t.n; h++) {
                int what = r.nextInt(10);
                due("hold " + h + " " + what, x.hold(h, what), holdIs(h, what));
            }
        }

        int holdIs(int h, int what) {
            Told t = m.t;
            switch (what) {
                case 0: return t.x[h];
                case 1: return t.y[h];
                case 2: return t.start[h] ? 1 : 0;
                case 3: return t.top[h] ? 1 : 0;
                case 4: return m.there(h, m.s.day) ? 1 : 0;
                case 5: return m.open(h, m.s.day) ? 1 : 0;
                case 6: return m.s.by[h];
                case 7: return m.s.by[h] < 0 ? -1 : m.s.since[h];
                case 8: return m.s.broken[h] ? 1 : 0;
                default: return t.ice[h];
            }
        }

        void act() {
            int g = someGuide(), h = someHold(), n = r.nextInt(5);
            switch (r.nextInt(12)) {
                case 0, 1, 2 -> due("goes " + g, x.goes(g), guide(g) ? m.goes(g) : -2);
                case 3 -> {
                    n = r.nextInt(20) == 0 ? 100 * r.nextInt(2) : 1 + r.nextInt(4);
                    int want = -3;
                    if (n >= 1 && n <= 99) { m.did(m.s.copy()); m.s.day += n; want = m.s.day; }
                    due("days " + n, x.days(n), want);
                }
                case 4 -> due("rain " + n, x.rain(n), n < 1 ? -3 : m.rain(n));
                case 5 -> { if (r.nextInt(3) == 0) breaks(h); }
                case 6 -> {
                    if (r.nextInt(3) > 0) return;
                    int had = m.countUsed();
                    m.did(m.s.copy());
                    Arrays.fill(m.s.by, -1);
                    Arrays.fill(m.s.since, -1);
                    m.s.day = 0;
                    m.s.years++;
                    due("newYear", x.newYear(), had);
                }
                case 7 -> {
                    int want = -3;
                    if (n >= 1 && n <= m.past.size()) {
                        for (int i = 0; i < n; i++) m.s = m.past.remove(m.past.size() - 1);
                        want = m.past.size();
                    }
                    due("undo " + n, x.undo(n), want);
                }
                case 8 -> {
                    int s = r.nextInt(), times = r.nextInt(3) == 0 ? r.nextInt(42) : r.nextInt(4);
                    due("season " + s + " " + times, x.season(s, times), m.season(s, times));
                }
                case 9 -> climb();
                case 10 -> {
                    int i = r.nextInt(3);
                    if (i < 2) { m.imageT[i] = m.t; m.imageS[i] = m.s.copy(); }
                    due("image " + i, x.image(i), i < 2 ? 0 : -2);
                }
                default -> {
                    int i = r.nextInt(3);
                    int want = i == 2 ? -2 : m.imageT[i] == null ? -5 : 0;
                    if (want == 0) { m.t = m.imageT[i]; m.s = m.imageS[i].copy(); m.past.clear(); }
                    due("restore " + i, x.restore(i), want);
                }
            }
            state();
        }

        void breaks(int h) {
            int want = -2;
            if (hold(h) && m.s.broken[h]) want = -5;
            else if (hold(h)) {
                m.did(m.s.copy());
                want = m.s.by[h] >= 0 ? 1 : 0;
                m.s.by[h] = -1;
                m.s.since[h] = -1;
                m.s.broken[h] = true;
            }
            due("breaks " + h, x.breaks(h), want);
        }

        /** A climb of some guide, often with one number turned wrong. */
        void climb() {
            int tray = r.nextInt(5), g = someGuide();
            long[] row = {g};
            if (guide(g)) {
                List<int[]> all = m.now(g);
                int[] c = all.isEmpty() ? new int[] {0, 1} : all.get(r.nextInt(all.size()));
                row = new long[c.length + 1];
                row[0] = g;
                for (int i = 0; i < c.length; i++) row[i + 1] = c[i];
            }
            if (r.nextInt(3) == 0) row[r.nextInt(row.length)] = r.nextInt(m.t.n + 2) - 1;
            if (r.nextInt(5) == 0) row = Arrays.copyOf(row, Math.max(0, row.length - r.nextInt(3)));
            if (r.nextInt(5) == 0) { row = Arrays.copyOf(row, row.length + 1); row[row.length - 1] = r.nextInt(m.t.n + 1); }
            if (r.nextInt(4) > 0) {
                int sort = r.nextInt(4);
                due("numbers", x.numbers(tray, sort, row.length), tray < 4 ? 0 : -2);
                for (int i = 0; i < row.length; i++) due("write", x.write(tray, i, row[i]), tray < 4 ? row[i] : -2);
                due("write behind", x.write(tray, row.length, 1), tray < 4 ? -7 : -2);
                if (tray < 4) { m.trays[tray] = row; m.sorts[tray] = sort; }
            }
            int what = r.nextInt(5) - 1;
            long want = tray > 3 || what < 0 || what > 2 ? -2 : m.trays[tray] == null ? -6 : 0;
            if (want == 0) {
                int[] v = m.judge(m.trays[tray]);
                want = what < 2 ? v[what] : v[1] == 0 ? Integer.bitCount(m.toldSet(m.trays[tray])) : 0;
            }
            due("judge " + tray + " " + what, x.judge(tray, what), want);
            want = tray > 3 ? -2 : m.trays[tray] == null ? -6 : m.judge(m.trays[tray])[1] > 0 ? -5 : 0;
            if (want == 0) {
                m.did(m.s.copy());
                want = m.use((int) m.trays[tray][0], m.toldSet(m.trays[tray]));
            }
            due("climb " + tray, x.climb(tray), want);
        }

        void ask(int n) {
            for (int i = 0; i < n; i++) ask(r.nextInt(25), someGuide(), someGuide(), someHold());
        }

        void ask(int kind, int g, int o, int h) {
            boolean is = guide(g);
            switch (kind) {
                case 0 -> due("reach " + g, x.reach(g), is ? m.reach(g) : -2);
                case 1 -> {
                    int what = r.nextInt(3) == 0 ? 0 : r.nextInt(28);
                    due("way " + g + " " + what, x.way(g, what), !is ? -2 : ofRow(m.wayOf(g, m.openSet(m.s.day)), what, 14, -1));
                }
                case 2 -> {
                    long want = -2;
                    if (is) {
                        want = 0;
                        int[] w = m.wayOf(g, m.openSet(m.s.day));
                        for (int[] c : m.now(g)) if (c.length == w.length) want++;
                    }
                    due("ways " + g, x.ways(g), want);
                }
                case 3 -> {
                    int n = r.nextInt(9);
                    long want = !is ? -2 : n < 1 || n > 7 ? -3 : 0;
                    if (want == 0) for (int[] c : m.now(g)) if (c.length <= n) want++;
                    due("climbs " + g + " " + n, x.climbs(g, n), want);
                }
                case 4 -> due("parties " + g, x.parties(g), is ? m.parties(g, m.openSet(m.s.day)) : -2);
                case 5, 6 -> {
                    int what = r.nextInt(4) - 1;
                    int[] s = is && what >= 0 && what < 2 ? m.shut(g) : null;
                    due("shut " + g + " " + what, x.shut(g, what), !is || what < 0 || what > 1 ? -2 : s == null ? -1 : s[what]);
                }
                case 7 -> due("needed " + g, x.needed(g), is ? m.needed(g) : -2);
                case 8 -> due("idle " + g, x.idle(g), is ? m.idle(g) : -2);
                case 9 -> {
                    int want = 0;
                    for (int i = 0; i < m.t.guides; i++) if (!m.now(i).isEmpty()) want |= 1 << i;
                    due("able", x.able(), want);
                }
                case 10 -> {
                    int want = hold(h) ? 0 : -2;
                    for (int i = 0; i < m.t.guides && want >= 0; i++) if ((m.needed(i) >> h & 1) != 0) want |= 1 << i;
                    due("needers " + h, x.needers(h), want);
                }
                case 11 -> {
                    int want = is ? -1 : -2;
                    for (int i = 0; i < m.t.n && is; i++) if ((m.reach(g) >> i & 1) != 0) want = Math.max(want, m.t.y[i]);
                    due("highest " + g, x.highest(g), want);
                }
                case 12, 13 -> due("together " + g + " " + o, x.together(g, o), is && guide(o) ? m.together(g, o) : -2);
                case 14 -> { if (m.t.n < 9) due("leastLeg " + g, x.leastLeg(g), is ? m.leastLeg(g) : -2); }
                case 15 -> { if (m.t.n < 9) due("opens " + g, x.opens(g), is ? m.opens(g) : -2); }
                case 16 -> due("dearest " + g, x.dearest(g), is ? m.dearest(g) : -2);
                case 17, 18 -> {
                    int set = someSet(g);
                    int want = m.badSet(set) ? -3 : 0;
                    for (int i = 0; i < m.t.guides && want >= 0; i++) if (m.ordered(i, set) != null) want |= 1 << i;
                    due("whose " + set, x.whose(set), want);
                }
                case 19, 20 -> {
                    int set = someSet(g), what = r.nextInt(3) == 0 ? 0 : r.nextInt(3) == 0 ? r.nextInt(28) : 10 + r.nextInt(9);
                    boolean asks = what == 0 || what >= 10 && what < 24;
                    int want = !is || !asks ? -2 : m.badSet(set) ? -3 : ofRow(m.ordered(g, set), what, 14, -1);
                    due("order " + g + " " + set + " " + what, x.order(g, set, what), want);
                }
                case 21 -> due("saved " + g, x.saved(g), is ? m.saved(g) : -2);
                case 22 -> {
                    int want = -2;
                    if (is && guide(o)) {
                        int open = m.openSet(m.s.day);
                        int[] w = m.wayOf(o, open);
                        want = w == null ? -5 : m.wayOf(g, open & ~m.uses(w)) == null ? 0 : 1;
                    }
                    due("leaves " + g + " " + o, x.leaves(g, o), want);
                }
                case 23 -> inTurn();
                default -> other(g, h);
            }
        }

        static int ofRow(int[] row, int what, int most, int none) {
            if (what != 0 && (what < 10 || what >= 10 + most)) return -2;
            if (row == null) return none;
            return what == 0 ? row.length : what - 10 < row.length ? row[what - 10] : -1;
        }

        int someSet(int g) {
            if (r.nextInt(8) == 0) return r.nextInt(3) == 0 ? -1 << r.nextInt(20) : r.nextInt(1 << m.t.n + 1);
            int all = m.middles() & m.thereSet();
            if (guide(g) && r.nextInt(3) > 0) {
                List<int[]> c = m.climbs(m.today(g), m.thereSet());
                if (!c.isEmpty()) return m.uses(c.get(r.nextInt(c.size())));
            }
            return all & r.nextInt();
        }

        void inTurn() {
            int what = r.nextInt(3) == 0 ? 0 : r.nextInt(3) == 0 ? r.nextInt(17) : 10 + r.nextInt(5);
            int set = r.nextInt(12) == 0 ? -1 << r.nextInt(32) : r.nextInt(1 << m.t.guides);
            int want = -3;
            if (set >= 0 && set < 1 << m.t.guides) {
                m.inTurn(set);
                want = what == 0 ? m.bestUp : what < 10 || what > 14 ? -2 : what - 10 < m.bestTurn.length ? m.bestTurn[what - 10] : -1;
            }
            due("inTurn " + set + " " + what, x.inTurn(set, what), want);
        }

        void other(int g, int h) {
            int what = r.nextInt(5) - 1, to = someHold(), tray = r.nextInt(5);
            int want = -2;
            if (guide(g) && what >= 0 && what < 3) {
                want = what == 0 ? m.t.leg[g] : m.t.weight[g];
                if (what == 2) {
                    want = 0;
                    for (int i = 0; i < 14; i++) if (m.s.by[i] == g) want |= 1 << i;
                }
            }
            due("guide " + g + " " + what, x.guide(g, what), want);
            want = guide(g) && hold(h) && hold(to) && h != to ? m.steps(g, m.t.leg[g], m.s.day, h, to) ? 1 : 0 : -2;
            due("steps " + g + " " + h + " " + to, x.steps(g, h, to), want);
            int[] w = guide(g) ? m.wayOf(g, m.openSet(m.s.day)) : null;
            want = tray > 3 || !guide(g) ? -2 : m.trays[tray] == null ? -6 : w == null ? -5 : Math.min(w.length + 1, m.trays[tray].length);
            due("lists " + tray + " " + g, x.lists(tray, g), want);
            for (int i = 0; i < want; i++) m.trays[tray][i] = i == 0 ? g : w[i - 1];
            if (want > 0) {
                int[] v = m.judge(m.trays[tray]);
                due("judge listed", x.judge(tray, 0), v[0]);
            }
            if (tray < 4 && m.trays[tray] != null && m.trays[tray].length > 0) {
                int i = r.nextInt(m.trays[tray].length);
                long v = r.nextLong() >> r.nextInt(64);
                m.trays[tray][i] = Model.cut(m.sorts[tray], v);
                due("write " + v, x.write(tray, i, v), m.trays[tray][i]);
            }
        }
    }
}
