import java.util.ArrayList;
import java.util.Arrays;
import java.util.HashSet;
import java.util.List;
import java.util.Random;
import java.util.Set;

/**
 * Walls of up to 14 holds whose steps are any that are wanted: no two pairs of holds lie alike, and the law lists the
 * pairs that may be stepped. What is asked of them is compared with all climbs, listed, and all sets of holds, tried.
 */
public final class GraphTest {
    private static final int MOST_CLIMBS = 20000;
    private static int wrong = 0;

    public static void main(String[] args) {
        long first = args.length > 0 ? Long.parseLong(args[0]) : 1;
        int runs = args.length > 1 ? Integer.parseInt(args[1]) : 2000;
        pushedAside();
        for (long seed = first; seed < first + runs && wrong < 20; seed++) new Run(seed).go();
        System.out.println("GraphTest: " + (wrong == 0 ? "all answers are as due" : wrong + " wrong"));
        if (wrong != 0) System.exit(1);
    }

    /** Climbs laid side by side that push others aside so far that a hold is left out again (promises 21, 22). */
    static void pushedAside() {
        // The climb over 1 2 3 is laid first; the one over 4 5 takes 3 from it, so that it goes on over 6 7 without 2.
        pushedAside("0>1 1>2 2>3 3>8 0>4 4>5 5>3 1>6 6>7 7>8", 9, 2, 10);
        // Then 2 is free, but leads to 3 alone: a third climb, over 8 9 10, has no way on.
        pushedAside("0>1 1>2 2>3 3>13 0>4 4>5 5>3 1>6 6>7 7>13 0>8 8>9 9>10 10>2 1>11 11>12 12>13", 14, 2, 10);
    }

    static void pushedAside(String steps, int holds, int parties, int shut) {
        Run run = new Run(0);
        run.n = holds;
        run.starts = 1;
        run.tops = 1 << holds - 1;
        for (String step : steps.split(" ")) run.rows[Integer.parseInt(step.split(">")[0])] |= 1 << Integer.parseInt(step.split(">")[1]);
        run.told();
        run.due("parties", run.x.parties(0), parties);
        run.due("shut", run.x.shut(0, 1), shut);
        run.cuts();
    }

    static final class Run {
        final long seed;
        final Random r;
        final FootholdWall x = new FootholdWall();
        int n, starts, tops, broken, used;
        final int[] rows = new int[14];
        String text = "";
        List<int[]> climbs = new ArrayList<>();

        Run(long seed) {
            this.seed = seed;
            r = new Random(seed * 104729);
        }

        void due(String call, long got, long want) {
            if (got != want && wrong++ < 20) System.out.println("seed " + seed + ": " + call + " answered " + got + ", due is " + want + " on " + text);
        }

        void go() {
            do draw(); while (!told());
            for (int i = 0; i < 4; i++) {
                list(open());
                cuts();
                if (climbs.size() < MOST_CLIMBS) listed();
                change();
            }
        }

        // ---- the wall

        void draw() {
            n = 14 - r.nextInt(r.nextInt(3) == 0 ? 8 : 2);
            starts = tops = 0;
            Arrays.fill(rows, 0);
            int some = 1 + r.nextInt(3) / 2;
            for (int i = 0; i < some; i++) starts |= 1 << r.nextInt(n);
            some = 1 + r.nextInt(3) / 2;
            for (int i = 0; i < some; i++) tops |= 1 << r.nextInt(n);
            if (r.nextInt(10) > 0) tops &= ~starts;
            if (tops == 0) tops = Integer.highestOneBit(~starts & (1 << n) - 1);
            int steps = n + n / 2 + r.nextInt(2 * n), sort = r.nextInt(3), height = 3 + r.nextInt(4);
            int[] level = new int[n];
            for (int h = 0; h < n; h++) level[h] = (starts >> h & 1) != 0 ? 0 : (tops >> h & 1) != 0 ? height : 1 + r.nextInt(height - 1);
            boolean rightUp = r.nextInt(9) == 0;
            for (int i = 0, tries = 0; i < steps && tries < 2000; tries++) {
                int a = r.nextInt(n), b = r.nextInt(n);
                int up = level[b] - level[a];
                boolean ends = level[a] == 0 || level[b] == height;
                boolean fits = sort == 0 || sort == 1 && up > 0 || sort == 2 && (up == 1 || up >= 0 && up < 3 && r.nextInt(5) == 0);
                // Steps into a start and out of a top lead nowhere new; most others are wanted more.
                boolean idle = (level[b] == 0 || level[a] == height) && r.nextInt(6) > 0 || !ends && r.nextInt(3) == 0;
                if (a != b && fits && !idle && (rightUp || up < height) && (rows[a] >> b & 1) == 0) {
                    rows[a] |= 1 << b;
                    i++;
                }
            }
        }

        /** Tells the wall as a text; false if it would be too long. */
        boolean told() {
            int[] px = new int[n], py = new int[n];
            while (!apart(px, py)) for (int h = 0; h < n; h++) { px[h] = r.nextInt(100); py[h] = r.nextInt(100); }
            StringBuilder b = new StringBuilder();
            for (int h = 0; h < n; h++)
                b.append("hold ").append(px[h]).append(' ').append(py[h]).append((starts >> h & 1) != 0 ? " start" : "").append((tops >> h & 1) != 0 ? " top" : "").append(';');
            b.append("guide leg 9;guide leg 8;step:");
            int steps = 0;
            for (int from = 0; from < n; from++) for (int to = 0; to < n; to++) if ((rows[from] >> to & 1) != 0) {
                int up = py[to] - py[from];
                b.append(steps++ == 0 ? "" : "or ").append("dx=").append(Math.abs(px[to] - px[from])).append("and up").append(up < 0 ? "+" + -up + "=0" : "=" + up);
            }
            text = b.append(steps == 0 ? "1=2;" : ";").toString();
            if (text.length() > 900) return false;
            feed(x, text);
            due("wall", x.wall(text.length()), n + 3);
            return true;
        }

        static boolean apart(int[] px, int[] py) {
            Set<Integer> seen = new HashSet<>();
            for (int a = 0; a < px.length; a++) for (int b = 0; b < px.length; b++)
                if (a != b && !seen.add(Math.abs(px[a] - px[b]) * 1000 + py[b] - py[a] + 200)) return false;
            return true;
        }

        int middles() { return (1 << n) - 1 & ~starts & ~tops; }
        int open() { return (1 << n) - 1 & ~broken & ~used; }

        void change() {
            int h = r.nextInt(n);
            if (r.nextInt(3) == 0 && (broken >> h & 1) == 0) {
                due("breaks", x.breaks(h), used >> h & 1);
                broken |= 1 << h;
                used &= ~(1 << h);
            } else {
                int[] way = way(open());
                due("goes", x.goes(0), way == null ? -5 : Integer.bitCount(set(way) & middles()));
                if (way != null) used |= set(way) & middles();
            }
        }

        // ---- climbs, listed

        static int set(int[] row) {
            int set = 0;
            for (int h : row) set |= 1 << h;
            return set;
        }

        void list(int open) {
            climbs = new ArrayList<>();
            for (int h = 0; h < n; h++) if ((open & starts & 1 << h) != 0) grow(new int[] {h}, open & ~(1 << h));
        }

        void grow(int[] row, int left) {
            int last = row[row.length - 1];
            if (climbs.size() >= MOST_CLIMBS) return;
            if ((tops >> last & 1) != 0) {
                climbs.add(row);
                return;
            }
            for (int h = 0; h < n; h++) if ((rows[last] & left & 1 << h) != 0) {
                int[] more = Arrays.copyOf(row, row.length + 1);
                more[row.length] = h;
                grow(more, left & ~(1 << h));
            }
        }

        /** By breadth, so that it stands without a list: the first shortest, by trying each next hold in turn. */
        int[] way(int open) {
            int length = farOff(open, open & starts);
            if (length < 0) return null;
            int[] row = new int[length + 1];
            int from = open & starts;
            for (int i = 0; i <= length; i++)
                for (int h = 0; h < n; h++) if ((from >> h & 1) != 0 && farOff(open, 1 << h) == length - i) {
                    row[i] = h;
                    from = rows[h] & open;
                    break;
                }
            return row;
        }

        /** How many steps a top is off, -1 if it can't be come to. */
        int farOff(int open, int from) {
            int seen = from & open;
            for (int i = 0; i < 15; i++) {
                if ((seen & tops) != 0) return i;
                for (int h = 0, was = seen; h < n; h++) if ((was >> h & 1) != 0) seen |= rows[h] & open;
            }
            return -1;
        }

        void listed() {
            int[] best = null;
            long ways = 0;
            long[] upTo = new long[8];
            int idle = open(), needed = -1, fewest = 99, saved = -1;
            Set<Integer> sets = new HashSet<>();
            for (int[] c : climbs) {
                if (best == null || c.length < best.length) {
                    best = c;
                    ways = 0;
                }
                if (c.length == best.length) ways++;
                for (int k = c.length; k < 8; k++) upTo[k]++;
                int uses = set(c) & middles(), size = Integer.bitCount(uses);
                idle &= ~set(c);
                needed &= uses;
                sets.add(uses);
                if (size < fewest || size == fewest && uses < saved) {
                    fewest = size;
                    saved = uses;
                }
            }
            due("ways", x.ways(0), ways);
            for (int k = 1; k < 8; k++) due("climbs " + k, x.climbs(0, k), upTo[k]);
            due("idle", x.idle(0), idle);
            due("needed", x.needed(0), climbs.isEmpty() ? 0 : needed);
            due("saved", x.saved(0), saved);
            due("able", x.able(), climbs.isEmpty() ? 0 : 3);
            due("together", x.together(0, 1), together(sets));
            whose();
        }

        static int together(Set<Integer> sets) {
            for (int a : sets) for (int b : sets) if ((a & b) == 0) return 1;
            return 0;
        }

        void whose() {
            int there = (1 << n) - 1 & ~broken;
            for (int i = 0; i < 6; i++) {
                int set = r.nextInt() & middles() & there;
                list(there);
                if (i > 0 && !climbs.isEmpty()) set = set(climbs.get(r.nextInt(climbs.size()))) & middles();
                list(there & ~middles() | set);
                int[] first = null;
                for (int[] c : climbs) if ((set(c) & middles()) == set && (first == null || c.length < first.length)) first = c;
                due("whose " + set, x.whose(set), first == null ? 0 : 3);
                due("order " + set, x.order(0, set, 0), first == null ? -1 : first.length);
                for (int k = 0; k < 14; k++) due("order " + set + " " + k, x.order(0, set, 10 + k), first == null || k >= first.length ? -1 : first[k]);
            }
        }

        // ---- sets of holds, tried

        void cuts() {
            int[] way = way(open());
            due("way", x.way(0, 0), way == null ? -1 : way.length);
            for (int k = 0; k < 14; k++) due("way " + k, x.way(0, 10 + k), way == null || k >= way.length ? -1 : way[k]);
            int least = leastCut(open());
            due("parties", x.parties(0), least < 0 ? 99 : Integer.bitCount(least));
            due("shut", x.shut(0, 0), least < 0 ? -1 : Integer.bitCount(least));
            due("shut, which", x.shut(0, 1), least);
            int dearest = -1;
            for (int h = n - 1; h >= 0 && least > 0; h--)
                if ((open() & middles() & 1 << h) != 0 && Integer.bitCount(leastCut(open() & ~(1 << h))) < Integer.bitCount(least)) dearest = h;
            due("dearest", x.dearest(0), dearest);
        }

        /** The least of the smallest sets whose loss leaves no climb, -1 if none does. */
        int leastCut(int open) {
            int best = -1, all = open & middles();
            for (int set = 0; set <= all; set++)
                if ((set & ~all) == 0 && (best < 0 || Integer.bitCount(set) < Integer.bitCount(best)) && farOff(open & ~set, open & starts) < 0) best = set;
            return best;
        }
    }

    static void feed(FootholdWall x, String text) {
        byte[] b = Arrays.copyOf(text.getBytes(), (text.length() + 19) / 20 * 20);
        for (int i = 0; i < b.length; i += 20) {
            int[] v = new int[5];
            for (int k = 0; k < 20; k++) v[k / 4] = v[k / 4] << 8 | b[i + k] & 255;
            x.feed(v[0], v[1], v[2], v[3], v[4]);
        }
    }
}
