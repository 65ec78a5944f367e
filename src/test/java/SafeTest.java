import java.lang.reflect.Constructor;
import java.lang.reflect.Field;
import java.lang.reflect.Method;
import java.lang.reflect.Modifier;
import java.nio.file.Files;
import java.nio.file.Path;
import java.util.Arrays;
import java.util.Random;
import java.util.TreeSet;

/**
 * The face is the document's; no call throws, whatever its arguments; refused calls change nothing; the same calls
 * give the same answers; the source keeps to LANGUAGE.md as far as its words tell; little is made by calls.
 */
public final class SafeTest {
    private static final String[] FACE = {
        "int feed(int,int,int,int,int)", "int wall(int)", "int fault(int)", "int hold(int,int)", "int guide(int,int)",
        "int steps(int,int,int)", "int reach(int)", "int judge(int,int)", "int climb(int)", "int goes(int)",
        "int days(int)", "int rain(int)", "int breaks(int)", "int newYear()", "int undo(int)", "int season(int,int)",
        "int way(int,int)", "long ways(int)", "long climbs(int,int)", "int parties(int)", "int shut(int,int)",
        "int needed(int)", "int idle(int)", "int able()", "int needers(int)", "int highest(int)", "int together(int,int)",
        "int leastLeg(int)", "int opens(int)", "int dearest(int)", "int whose(int)", "int order(int,int,int)",
        "int saved(int)", "int leaves(int,int)", "int inTurn(int,int)", "int numbers(int,int,int)",
        "long write(int,int,long)", "int lists(int,int)", "int image(int)", "int restore(int)", "int count(int)"};
    private static int wrong = 0;

    public static void main(String[] args) throws Exception {
        face();
        source();
        fuzz(args.length > 0 ? Integer.parseInt(args[0]) : 400);
        room();
        System.out.println("SafeTest: " + wrong + " wrong");
        if (wrong != 0) System.exit(1);
    }

    static void check(boolean fine, String what) {
        if (!fine && wrong++ < 30) System.out.println(what);
    }

    static void face() {
        Class<?> c = FootholdWall.class;
        check(Modifier.isFinal(c.getModifiers()) && Modifier.isPublic(c.getModifiers()), "the class is public and final");
        TreeSet<String> due = new TreeSet<>(Arrays.asList(FACE)), has = new TreeSet<>(), names = new TreeSet<>();
        for (Method m : c.getDeclaredMethods()) {
            if (Modifier.isPrivate(m.getModifiers())) continue;
            StringBuilder b = new StringBuilder(m.getReturnType() + " " + m.getName() + "(");
            for (Class<?> p : m.getParameterTypes()) b.append(b.charAt(b.length() - 1) == '(' ? "" : ",").append(p);
            has.add(b.append(")").toString());
            names.add(m.getName());
            check(Modifier.isPublic(m.getModifiers()) && !Modifier.isStatic(m.getModifiers()), "public: " + m);
        }
        check(due.equals(has), "the face is " + has);
        for (Field f : c.getDeclaredFields())
            check(Modifier.isPrivate(f.getModifiers()) || f.getName().equals("NONE") && Modifier.isPublic(f.getModifiers()), "private: " + f);
        for (Constructor<?> k : c.getDeclaredConstructors()) check(k.getParameterCount() == 0 && Modifier.isPublic(k.getModifiers()), "one constructor");
        Class<?>[] inside = c.getDeclaredClasses();
        check(inside.length <= 12, "classes: " + inside.length);
        for (Class<?> i : inside) {
            check(Modifier.isStatic(i.getModifiers()), "static: " + i);
            int fields = 0;
            for (Field f : i.getDeclaredFields()) {
                if (!Modifier.isStatic(f.getModifiers())) fields++;
                else check(Modifier.isFinal(f.getModifiers()), "final: " + f);
            }
            check(fields <= 20, "fields of " + i + ": " + fields);
            for (Method m : i.getDeclaredMethods()) {
                check(!names.contains(m.getName()), "a name of the face: " + m);
                check(m.getParameterCount() <= 7, "parameters of " + m);
            }
        }
        for (Method m : c.getDeclaredMethods()) {
            check(!Modifier.isPrivate(m.getModifiers()) || !names.contains(m.getName()), "a private method with a name of the face: " + m);
            check(m.getParameterCount() <= 7, "parameters of " + m);
        }
    }

    static void source() throws Exception {
        String s = Files.readString(Path.of("src/main/java/FootholdWall.java"));
        for (char ch : s.toCharArray()) check(ch == '\n' || ch >= 32 && ch < 127, "a sign of the source: " + (int) ch);
        String code = s.replaceAll("(?s)/\\*.*?\\*/", "").replaceAll("//[^\n]*", "").replaceAll("\"[^\"\n]*\"", "\"\"").replaceAll("'.'", "'x'");
        for (String word : new String[] {"throw", "throws", "try", "catch", "finally", "synchronized", "assert", "package", "double", "float",
            "interface", "enum", "record", "yield", "var", "volatile", "native", "Object", "System.out", "Random", "Thread", "hashCode", "toString"})
            check(!code.matches("(?s).*\\b" + word.replace(".", "\\.") + "\\b.*"), "the source says " + word);
        for (String sign : new String[] {"->", "::", "@", "[][]", "\"\" +", "+ \"\"", "\"\"\""}) check(!code.contains(sign), "the source says " + sign);
        check(code.replaceAll("import java\\.util\\.Arrays;", "").indexOf("import") < 0, "imports");
        String[] lines = s.split("\n");
        int from = -1;
        for (int i = 0; i < lines.length; i++) {
            check(lines[i].length() <= 130, "a long line: " + (i + 1));
            String indent = lines[i].replaceAll("\\S.*", "");
            if (lines[i].endsWith("{") && lines[i].contains("(") && (indent.length() == 4 || indent.length() == 8 && !lines[i].matches("\\s*(if|for|while|switch|\\}).*"))) from = i;
            if (from >= 0 && lines[i].equals(lines[from].replaceAll("\\S.*", "") + "}")) {
                check(i - from < 60, "a long method at " + (from + 1) + ": " + (i - from));
                from = -1;
            }
        }
    }

    // ---- any arguments

    static int some(Random r) {
        switch (r.nextInt(12)) {
            case 0: return Integer.MIN_VALUE;
            case 1: return Integer.MAX_VALUE;
            case 2: return r.nextInt();
            case 3: return -r.nextInt(4);
            case 4: return 1 << r.nextInt(32);
            case 5: return r.nextInt(60);
            case 6: return 10 + r.nextInt(16);
            default: return r.nextInt(7);
        }
    }

    static long call(FootholdWall x, Random r) {
        int a = some(r), b = some(r), c = some(r);
        switch (r.nextInt(41)) {
            case 0: return x.feed(a, b, c, some(r), some(r));
            case 1: return r.nextInt(4) == 0 ? x.wall(a) : 0;
            case 2: return x.fault(a);
            case 3: return x.hold(a, b);
            case 4: return x.guide(a, b);
            case 5: return x.steps(a, b, c);
            case 6: return x.reach(a);
            case 7: return x.judge(a, b);
            case 8: return x.climb(a);
            case 9: return x.goes(a);
            case 10: return x.days(a);
            case 11: return x.rain(a);
            case 12: return x.breaks(a);
            case 13: return x.newYear();
            case 14: return x.undo(a);
            case 15: return x.season(a, b);
            case 16: return x.way(a, b);
            case 17: return x.ways(a);
            case 18: return x.climbs(a, b);
            case 19: return x.parties(a);
            case 20: return x.shut(a, b);
            case 21: return x.needed(a);
            case 22: return x.idle(a);
            case 23: return x.able();
            case 24: return x.needers(a);
            case 25: return x.highest(a);
            case 26: return x.together(a, b);
            case 27: return x.leastLeg(a);
            case 28: return x.opens(a);
            case 29: return x.dearest(a);
            case 30: return x.whose(a);
            case 31: return x.order(a, b, c);
            case 32: return x.saved(a);
            case 33: return x.leaves(a, b);
            case 34: return x.inTurn(a, b);
            case 35: return x.numbers(a, b, c);
            case 36: return x.write(a, b, (long) c << r.nextInt(40));
            case 37: return x.lists(a, b);
            case 38: return x.image(a);
            case 39: return x.restore(a);
            default: return x.count(a);
        }
    }

    static String text(Random r) {
        StringBuilder b = new StringBuilder();
        int holds = r.nextInt(15), guides = r.nextInt(6), size = 1 + r.nextInt(8);
        for (int h = 0; h < holds; h++) {
            b.append("hold ").append(r.nextInt(size)).append(' ').append(r.nextInt(size));
            if (h == 0 || r.nextInt(6) == 0) b.append(" start");
            if (h == holds - 1 || r.nextInt(6) == 0) b.append(" top");
            if (r.nextInt(6) == 0) b.append(" ice ").append(r.nextInt(9));
            b.append(';');
        }
        for (int g = 0; g < guides; g++) b.append("guide leg ").append(r.nextInt(10)).append(';');
        if (r.nextInt(3) == 0) b.append("step : far < leg + day and not [up < 0 - 2 or dx * dx > 9];");
        return b.toString();
    }

    static void feed(FootholdWall x, String text) {
        byte[] b = Arrays.copyOf(text.getBytes(), (text.length() + 19) / 20 * 20);
        for (int i = 0; i < b.length; i += 20) {
            int[] v = new int[5];
            for (int k = 0; k < 20; k++) v[k / 4] = v[k / 4] << 8 | b[i + k] & 255;
            x.feed(v[0], v[1], v[2], v[3], v[4]);
        }
    }

    /** What can be seen of the state. */
    static String seen(FootholdWall x) {
        StringBuilder b = new StringBuilder();
        for (int what = 0; what < 10; what++) b.append(x.count(what)).append(' ');
        for (int h = 0; h < x.count(0); h++) for (int what = 0; what < 10; what++) b.append(x.hold(h, what)).append(' ');
        for (int t = 0; t < 4; t++) b.append(x.judge(t, 0)).append(' ').append(x.judge(t, 1)).append(' ');
        return b.append(x.able()).toString();
    }

    static void fuzz(int runs) {
        for (int run = 0; run < runs && wrong < 30; run++) {
            Random r = new Random(run), s = new Random(run);
            FootholdWall x = new FootholdWall(), y = new FootholdWall();
            String text = text(new Random(run * 31L));
            feed(x, text);
            feed(y, text);
            x.wall(text.length());
            y.wall(text.length());
            for (int i = 0; i < 200; i++) {
                String was = i % 9 == 0 ? seen(x) : null;
                int n = x.count(7);
                long got = 0;
                try {
                    got = call(x, r);
                } catch (RuntimeException | StackOverflowError e) {
                    check(false, "run " + run + " call " + i + ": " + e);
                    return;
                }
                check(got == call(y, s), "run " + run + " call " + i + ": two answers");
                boolean texts = got <= -31 && got >= -34 && x.count(7) < n;
                if (was != null && got < -1 && got > -100 && !texts) check(was.equals(seen(x)), "run " + run + " call " + i + ": refused by " + got + ", but something changed");
            }
        }
    }

    // ---- the room

    static long made() {
        return ((com.sun.management.ThreadMXBean) java.lang.management.ManagementFactory.getThreadMXBean()).getThreadAllocatedBytes(Thread.currentThread().getId());
    }

    static void room() {
        long was = made();
        FootholdWall x = new FootholdWall();
        check(made() - was < 20000, "a new object takes " + (made() - was));
        StringBuilder b = new StringBuilder("hold 0 0 start;");
        for (int i = 0; i < 12; i++) b.append("hold 0 ").append(1 + i % 4).append(";");
        b.append("hold 0 5 top;guide leg 1;guide leg 2;guide leg 3;guide leg 4;guide leg 5;");
        feed(x, b.toString());
        x.wall(b.length());
        was = made();
        for (int i = 0; i < 3; i++) {
            x.idle(1); x.whose(0x1ffe); x.order(1, 0x1ffe, 0); x.together(0, 1); x.inTurn(31, 0); x.climbs(4, 7);
            x.shut(0, 1); x.dearest(1); x.leastLeg(0); x.opens(0); x.season(3, 40); x.image(0); x.restore(0);
            x.numbers(1, 3, 40); x.lists(1, 0); x.judge(1, 0); x.undo(1); x.rain(3); x.newYear();
        }
        check(made() - was < 150000, "the dearest calls take " + (made() - was));
        was = made();
        for (int i = 0; i < 100; i++) x.wall(0);
        check(made() - was < 100000, "empty walls take " + (made() - was));
    }
}
