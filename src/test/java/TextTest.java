import java.util.ArrayList;
import java.util.Arrays;
import java.util.List;
import java.util.Random;

/** Texts right and wrong, compared with a flat automaton over a list of all tokens, which knows no recursion. */
public final class TextTest {
    private static int wrong = 0;
    private static int[] kinds = new int[5];

    public static void main(String[] args) {
        long first = args.length > 0 ? Long.parseLong(args[0]) : 1;
        int runs = args.length > 1 ? Integer.parseInt(args[1]) : 20000;
        for (long seed = first; seed < first + runs && wrong < 20; seed++) {
            Random r = new Random(seed * 31 + 5);
            check(seed, text(r));
        }
        for (int k = 0; k < 5; k++) if (kinds[k] == 0) { wrong++; System.out.println("no text with fault " + k); }
        System.out.println("TextTest: " + (wrong == 0 ? "all answers are as due" : wrong + " wrong"));
        if (wrong != 0) System.exit(1);
    }

    static void due(long seed, String call, int got, int want, String text) {
        if (got != want && wrong++ < 20)
            System.out.println("seed " + seed + ": " + call + " answered " + got + ", due is " + want + " on " + text);
    }

    static void check(long seed, String text) {
        FootholdWall x = new FootholdWall();
        byte[] b = new byte[(text.length() + 19) / 20 * 20];
        for (int i = 0; i < text.length(); i++) b[i] = (byte) text.charAt(i);
        int[] v = new int[5];
        for (int i = 0; i < b.length; i += 20) {
            for (int k = 0; k < 5; k++) {
                int at = i + 4 * k;
                v[k] = (b[at] & 255) << 24 | (b[at + 1] & 255) << 16 | (b[at + 2] & 255) << 8 | b[at + 3] & 255;
            }
            due(seed, "feed", x.feed(v[0], v[1], v[2], v[3], v[4]), i + 20, text);
        }
        Automaton a = new Automaton(text);
        int[] f = a.fault();
        kinds[f[0]]++;
        due(seed, "wall", x.wall(text.length()), f[0] == 0 ? a.lines : -30 - f[0], text);
        due(seed, "fault(0)", x.fault(0), f[0], text);
        due(seed, "fault(1)", x.fault(1), f[1], text);
        due(seed, "count(0)", x.count(0), f[0] == 0 ? a.holds : 0, text);
        due(seed, "count(1)", x.count(1), f[0] == 0 ? a.guides : 0, text);
        due(seed, "count(7)", x.count(7), 0, text);
        due(seed, "count(8)", x.count(8), f[0] == 0 ? a.lines : 0, text);
    }

    // ---- the automaton

    static final class Automaton {
        final String text;
        int holds = 0, guides = 0, lines = 0;
        List<Boolean> end = new ArrayList<>();

        Automaton(String text) { this.text = text; }

        /** Kind and place; {0, -1} without one. */
        int[] fault() {
            String state = "line";
            List<Character> nest = new ArrayList<>();
            boolean right = false;
            int at = 0;
            while (true) {
                while (at < text.length() && (text.charAt(at) == ' ' || text.charAt(at) == '\n')) at++;
                if (at == text.length()) return state.equals("line") ? new int[] {0, -1} : new int[] {2, at};
                int to = at + 1;
                char c = text.charAt(at);
                String sort = "sign";
                if (c >= 'a' && c <= 'z') {
                    sort = "word";
                    while (to < text.length() && text.charAt(to) >= 'a' && text.charAt(to) <= 'z') to++;
                } else if (c >= '0' && c <= '9') {
                    sort = "number";
                    while (to < text.length() && text.charAt(to) >= '0' && text.charAt(to) <= '9') to++;
                    if (to - at > 3) return new int[] {1, at};
                } else if (";:+-*()[]=<>".indexOf(c) < 0) return new int[] {1, at};
                String t = text.substring(at, to);
                int n = sort.equals("number") ? Integer.parseInt(t) : -1;
                int kind = 0;
                switch (state) {
                    case "line" -> {
                        switch (t) {
                            case "hold" -> { if (holds == 14) kind = 4; state = "x"; }
                            case "guide" -> { if (guides == 5) kind = 4; state = "leg"; }
                            case "step" -> state = ":";
                            case "used" -> state = "usedHold";
                            case "broken" -> state = "brokenHold";
                            case "day" -> state = "dayN";
                            default -> kind = 2;
                        }
                    }
                    case "x" -> { kind = n < 0 ? 2 : n > 99 ? 3 : 0; state = "y"; }
                    case "y" -> { kind = n < 0 ? 2 : n > 99 ? 3 : 0; state = "flag"; holds++; end.add(false); }
                    case "flag" -> {
                        switch (t) {
                            case "start", "top" -> end.set(holds - 1, true);
                            case "wide" -> { }
                            case "ice" -> state = "ice";
                            case ";" -> state = done();
                            default -> kind = 2;
                        }
                    }
                    case "ice" -> { kind = n < 0 ? 2 : 0; state = "flag"; }
                    case "leg" -> { kind = t.equals("leg") ? 0 : 2; state = "legN"; }
                    case "legN" -> { kind = n < 0 ? 2 : n > 99 ? 3 : 0; state = "weight"; guides++; }
                    case "weight" -> {
                        if (t.equals("weight")) state = "weightN";
                        else if (t.equals(";")) state = done();
                        else kind = 2;
                    }
                    case "weightN" -> { kind = n < 0 ? 2 : n > 99 ? 3 : 0; state = "end"; }
                    case "end" -> { kind = t.equals(";") ? 0 : 2; state = done(); }
                    case "usedHold" -> { kind = n < 0 ? 2 : n >= holds || end.get(n) ? 3 : 0; state = "by"; }
                    case "by" -> { kind = t.equals("by") ? 0 : 2; state = "byN"; }
                    case "byN" -> { kind = n < 0 ? 2 : n >= guides ? 3 : 0; state = "end"; }
                    case "brokenHold" -> { kind = n < 0 ? 2 : n >= holds ? 3 : 0; state = "end"; }
                    case "dayN" -> { kind = n < 0 ? 2 : 0; state = "end"; }
                    case ":" -> { kind = t.equals(":") ? 0 : 2; state = "unit"; nest.clear(); right = false; }
                    case "unit", "atom" -> {
                        boolean unit = state.equals("unit");
                        if (t.equals("(") || unit && (t.equals("[") || t.equals("not"))) {
                            if (nest.size() == 6) kind = 4;
                            nest.add(t.charAt(0));
                            if (t.equals("(")) state = "atom";
                        } else if (n >= 0 || List.of("dx", "up", "far", "leg", "weight", "wide", "day").contains(t)) state = "after";
                        else kind = 2;
                    }
                    case "after" -> {
                        boolean inParen = !nest.isEmpty() && nest.get(nest.size() - 1) == '(';
                        if (t.equals("+") || t.equals("-") || t.equals("*")) state = "atom";
                        else if (t.equals(")") && inParen) nest.remove(nest.size() - 1);
                        else if (!inParen && !right && (t.equals("=") || t.equals("<") || t.equals(">"))) { right = true; state = "atom"; }
                        else if (!inParen && right) {
                            right = false;
                            state = "truth";
                            while (!nest.isEmpty() && nest.get(nest.size() - 1) == 'n') nest.remove(nest.size() - 1);
                            continue;
                        } else kind = 2;
                    }
                    case "truth" -> {
                        if (t.equals("and") || t.equals("or")) state = "unit";
                        else if (t.equals("]") && !nest.isEmpty()) {
                            nest.remove(nest.size() - 1);
                            while (!nest.isEmpty() && nest.get(nest.size() - 1) == 'n') nest.remove(nest.size() - 1);
                        } else if (t.equals(";") && nest.isEmpty()) state = done();
                        else kind = 2;
                    }
                    default -> throw new IllegalStateException(state);
                }
                if (kind > 0) return new int[] {kind, at};
                at = to;
            }
        }

        String done() { lines++; return "line"; }
    }

    // ---- texts

    static String text(Random r) {
        while (true) {
            StringBuilder b = new StringBuilder();
            int lines = r.nextInt(4) == 0 ? r.nextInt(24) : r.nextInt(7);
            for (int i = 0; i < lines; i++) b.append(line(r)).append(r.nextInt(6) == 0 ? " ; " : ";").append(r.nextInt(6) == 0 ? "\n" : "");
            for (int i = r.nextInt(4) - 1; i > 0 && b.length() > 0; i--) spoil(r, b);
            if (b.length() <= 900) return b.toString();
        }
    }

    static String number(Random r, int most) { return "" + (r.nextInt(20) == 0 ? r.nextInt(1200) : r.nextInt(most)); }

    static String line(Random r) {
        switch (r.nextInt(9)) {
            case 0, 1, 2, 3: {
                String s = "hold " + number(r, 100) + " " + number(r, 100);
                for (int i = r.nextInt(3); i > 0; i--) s += new String[] {" start", " top", " wide", " ice " + number(r, 1000)}[r.nextInt(4)];
                return s;
            }
            case 4: return "guide leg " + number(r, 100) + (r.nextBoolean() ? " weight " + number(r, 100) : "");
            case 5: return "step : " + truth(r, 0);
            case 6: return "used " + number(r, 4) + " by " + number(r, 2);
            case 7: return "broken " + number(r, 4);
            default: return "day " + number(r, 1000);
        }
    }

    static String truth(Random r, int d) {
        String s = unit(r, d);
        while (r.nextInt(4) == 0) s += (r.nextBoolean() ? " or " : " and ") + unit(r, d);
        return s;
    }

    static String unit(Random r, int d) {
        int k = r.nextInt(d > 6 ? 20 : 4);
        if (k == 0) return "not " + unit(r, d + 1);
        if (k == 1) return "[" + truth(r, d + 1) + "]";
        return sum(r, d) + " " + "=<>".charAt(r.nextInt(3)) + sum(r, d);
    }

    static String sum(Random r, int d) {
        String s = atom(r, d);
        while (r.nextInt(3) == 0) s += "+-*".charAt(r.nextInt(3)) + atom(r, d);
        return s;
    }

    static String atom(Random r, int d) {
        if (r.nextInt(d > 6 ? 20 : 3) == 0) return "(" + sum(r, d + 1) + ")";
        return r.nextBoolean() ? number(r, 1000) : new String[] {"dx", "up", "far", "leg", "weight", "wide", "day"}[r.nextInt(7)];
    }

    static void spoil(Random r, StringBuilder b) {
        int at = r.nextInt(b.length());
        String[] some = {"hold", "or", "not", " ", "9", "[", ")", ";", "\n", "\t", "A", ",", "by", "\u00e9", "=", "-", ":", "\0", "leg", "{", "@", "`", "/", "\r"};
        switch (r.nextInt(4)) {
            case 0 -> b.deleteCharAt(at);
            case 1 -> b.insert(at, some[r.nextInt(some.length)]);
            case 2 -> b.setLength(at);
            default -> b.replace(at, at + 1, some[r.nextInt(some.length)]);
        }
    }
}
