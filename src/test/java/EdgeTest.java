import java.nio.file.Files;
import java.nio.file.Path;
import java.util.ArrayList;
import java.util.Arrays;
import java.util.List;
import java.util.function.IntToLongFunction;

/**
 * Each sentence of the document that names an edge, by itself: too small, too large, empty, full, around the end,
 * refused. says() quotes the sentence; what is due behind it is asked on both sides of the edge.
 * With a path as argument (the document's) it tells which quoted words don't stand there.
 */
public final class EdgeTest {
    private static final int MIN = Integer.MIN_VALUE;
    private static final int MAX = Integer.MAX_VALUE;
    /** Guide 0 takes every rung, guide 1 leaves one out, guide 2 steps right up. */
    private static final String LADDER =
        "hold 0 0 start;hold 0 1;hold 0 2;hold 0 3 top;guide leg 1;guide leg 2;guide leg 3;";
    /** As many holds and guides as can be: a start, twelve side by side, a top. */
    private static final String FULL = "hold 0 0 start;" + "hold 0 1;".repeat(12) + "hold 0 2 top;" + "guide leg 1;".repeat(5) + "step : up = 1;";
    /** As many holds as can be, one above the other. */
    private static final String LONG = tall() + "guide leg 1;";

    private static final List<String> quoted = new ArrayList<>();
    private static String sentence = "";
    private static int wrong = 0;
    private static int asked = 0;

    public static void main(String[] args) throws Exception {
        text();
        laws();
        tokens();
        faults();
        holdsAndSteps();
        climbing();
        toldClimbs();
        undoing();
        asAllIs();
        setsAndTurns();
        seasons();
        promises1To4();
        promises5To8();
        promises9To12();
        promises13To17();
        promises18To22();
        promises23To28();
        promises29To31();
        promises32To36();
        promises37To39();
        promises40To42();
        RefusedCalls.all();
        if (args.length > 0) misquoted(args[0]);
        System.out.println("EdgeTest: " + quoted.size() + " sentences, " + asked + " asked, " + wrong + " wrong");
        if (wrong != 0) System.exit(1);
    }

    // ---- tools

    static String tall() {
        StringBuilder b = new StringBuilder("hold 0 0 start;");
        for (int i = 1; i < 13; i++) b.append("hold 0 ").append(i).append(";");
        return b.append("hold 0 13 top;").toString();
    }

    static void says(int promise, String words) {
        sentence = (promise == 0 ? "Terms" : "Promise " + promise) + ": \"" + words + "\"";
        quoted.add(words);
    }

    static void misquoted(String path) throws Exception {
        String document = Files.readString(Path.of(path));
        for (String words : quoted) if (!document.contains(words)) System.out.println("not in the document: " + words);
    }

    static void due(String call, long got, long want) {
        asked++;
        if (got != want) {
            wrong++;
            System.out.println(sentence + "\n  " + call + " answered " + got + ", due is " + want);
        }
    }

    /** The numbers just out of bounds and far out are answered by a code, those at the bounds are not. */
    static void bounds(String call, int least, int most, long code, IntToLongFunction f) {
        for (int n : new int[] {MIN, least - 1, most + 1, MAX}) due(call + " of " + n, f.applyAsLong(n), code);
        for (int n : new int[] {least, most}) due(call + " of " + n + " is refused", f.applyAsLong(n) == code ? 1 : 0, 0);
    }

    static void feed(FootholdWall x, String text) {
        byte[] b = new byte[(text.length() + 19) / 20 * 20];
        Arrays.fill(b, (byte) ' ');
        for (int i = 0; i < text.length(); i++) b[i] = (byte) text.charAt(i);
        for (int i = 0; i < b.length; i += 20) {
            int[] v = new int[5];
            for (int k = 0; k < 20; k++) v[k / 4] = v[k / 4] << 8 | b[i + k] & 255;
            x.feed(v[0], v[1], v[2], v[3], v[4]);
        }
    }

    static int tell(FootholdWall x, String text) {
        feed(x, text);
        return x.wall(text.length());
    }

    static FootholdWall on(String text) {
        FootholdWall x = new FootholdWall();
        int lines = tell(x, text);
        if (lines < 0) due("wall of " + text + " at " + x.fault(1), lines, 0);
        return x;
    }

    static void fine(String text, int lines) {
        FootholdWall x = new FootholdWall();
        due("wall of " + text, tell(x, text), lines);
        due("fault(0) of " + text, x.fault(0), 0);
        due("fault(1) of " + text, x.fault(1), -1);
    }

    static void fault(String text, int kind, int place) {
        FootholdWall x = new FootholdWall();
        due("wall of " + text, tell(x, text), -30 - kind);
        due("fault(0) of " + text, x.fault(0), kind);
        due("fault(1) of " + text, x.fault(1), place);
    }

    /** A told climb comes into tray 0. */
    static void tray(FootholdWall x, long... numbers) {
        x.numbers(0, 3, numbers.length);
        for (int i = 0; i < numbers.length; i++) x.write(0, i, numbers[i]);
    }

    static void judged(String what, FootholdWall x, int place, int why, int used) {
        due(what + ": judge(0, 0)", x.judge(0, 0), place);
        due(what + ": judge(0, 1)", x.judge(0, 1), why);
        due(what + ": judge(0, 2)", x.judge(0, 2), used);
        if (why > 0) due(what + ": climb(0)", x.climb(0), -5);
    }

    /** Whether a law lets a guide of LEG 4, WEIGHT 6 step from 3, 5 to 1, 9 (wide) on DAY 7. */
    static int lawful(String law) {
        return on("hold 3 5;hold 1 9 wide;guide leg 4 weight 6;step : " + law + ";day 7;").steps(0, 0, 1);
    }

    // ---- the text

    static void text() {
        says(0, "THE WALL is a TEXT of at most 900 bytes");
        String blanks = " ".repeat(894);
        FootholdWall x = on(blanks + "day 5;");
        due("DAY told at the end of 900 bytes", x.count(2), 5);
        feed(x, blanks + "day 6;");
        due("one byte less", x.wall(899), -32);
        due("its place", x.fault(1), 899);
        fine("day 5;".repeat(150), 150);
        x = on("hold 0 0;hold 0 1;guide leg 1;step:" + "1+".repeat(428) + "1<429;");
        due("a law of all the room, 429 < 429", x.steps(0, 0, 1), 0);
        x = on("hold 0 0;hold 0 1;guide leg 1;step:" + "1+".repeat(428) + "1=429;");
        due("a law of all the room, 429 = 429", x.steps(0, 0, 1), 1);
        due("its bytes", "hold 0 0;hold 0 1;guide leg 1;step:".length() + 2 * 428 + 6, 897);
        x = on("hold 0 0;hold 0 1;guide leg 1;step:" + "1=2or ".repeat(143) + "1=1;");
        due("the last of 144 by or", x.steps(0, 0, 1), 1);
        x = on("hold 0 0;hold 0 1;guide leg 1;step:" + "1=1and ".repeat(122) + "1=2;");
        due("the last of 123 by and", x.steps(0, 0, 1), 0);

        says(0, "(without one: no HOLDS, no GUIDES)");
        x = on(LADDER);
        due("wall(0)", x.wall(0), 0);
        due("HOLDS", x.count(0), 0);
        due("GUIDES", x.count(1), 0);
        due("LINES", x.count(8), 0);
        due("hold(0, 0)", x.hold(0, 0), -8);
        due("guide(0, 0)", x.guide(0, 0), -2);

        says(0, "{ LINE ; }");
        fine("", 0);
        fine(" ", 0);
        fine("\n", 0);
        fault(";", 2, 0);
        fault("day 1;;", 2, 6);
        fault("day 1", 2, 5);

        says(0, "hold N N { FLAG }");
        fine("hold 1 1;", 1);
        fine("hold 1 1 wide top ice 4 start wide start top ice 5;", 1);
        fault("hold;", 2, 4);
        fault("hold 1;", 2, 6);
        fault("hold 1 1 1;", 2, 9);
        fault("hold 1 1 ice;", 2, 12);
        fault("hold 1 1 ice 1 1;", 2, 15);
        fault("hold start 1 1;", 2, 5);

        says(0, "guide leg N [ weight N ]");
        fine("guide leg 1;guide leg 1 weight 1;", 2);
        fault("guide;", 2, 5);
        fault("guide leg;", 2, 9);
        fault("guide 1;", 2, 6);
        fault("guide leg 1 weight;", 2, 18);
        fault("guide leg 1 1;", 2, 12);
        fault("guide leg 1 weight 1 1;", 2, 21);
        fault("guide leg 1 weight 1 weight 1;", 2, 21);
        fault("guide weight 1 leg 1;", 2, 6);

        says(0, "used N by N | broken N | day N");
        String told = "hold 1 1;guide leg 1;";
        fine(told + "used 0 by 0;broken 0;day 0;", 5);
        fault(told + "used;", 2, 25);
        fault(told + "used 0;", 2, 27);
        fault(told + "used 0 by;", 2, 30);
        fault(told + "used 0 by 0 by 0;", 2, 33);
        fault(told + "broken;", 2, 27);
        fault(told + "broken 0 0;", 2, 30);
        fault(told + "day;", 2, 24);
        fault(told + "day 1 1;", 2, 27);
        linesOfTheText();
    }

    static void linesOfTheText() {
        says(0, "hold: x 0 to 99, y 0 to 99 (its height)");
        FootholdWall x = on("hold 0 99;hold 99 0;hold 00 099;");
        due("x 0", x.hold(0, 0), 0);
        due("y 99", x.hold(0, 1), 99);
        due("x 99", x.hold(1, 0), 99);
        due("y 0", x.hold(1, 1), 0);
        due("x 00", x.hold(2, 0), 0);
        due("y 099", x.hold(2, 1), 99);
        fault("hold 100 0;", 3, 5);
        fault("hold 0 100;", 3, 7);
        fault("hold 999 999;", 3, 5);
        fault("hold -1 0;", 2, 5);
        fault("hold 0 -1;", 2, 7);

        says(0, "ice: it is there from that DAY (0 to 999) on");
        x = on("hold 0 0 ice 0;hold 0 0 ice 1;hold 0 0 ice 999;hold 0 0;");
        due("ice 0", x.hold(0, 9), 0);
        due("ice 999", x.hold(2, 9), 999);
        due("without ice", x.hold(3, 9), 0);
        due("ice 0 on DAY 0", x.hold(0, 4), 1);
        due("ice 1 on DAY 0", x.hold(1, 4), 0);
        x.days(1);
        due("ice 1 on DAY 1", x.hold(1, 4), 1);
        x.days(99);
        due("ice 1 on DAY 100", x.hold(1, 4), 1);
        x = on("hold 0 0 ice 999;day 998;");
        due("ice 999 on DAY 998", x.hold(0, 4), 0);
        x.days(1);
        due("ice 999 on DAY 999", x.hold(0, 4), 1);
        x.days(1);
        due("ice 999 on DAY 1000", x.hold(0, 4), 1);
        fault("hold 1 1 ice 1000;", 1, 13);
        fault("hold 1 1 ice -1;", 2, 13);

        says(0, "later FLAGS of one word strike");
        x = on("hold 1 1 ice 5 wide ice 0;hold 1 1 ice 0 ice 5;hold 1 1 start start;hold 1 1;");
        due("ice 5 ice 0", x.hold(0, 9), 0);
        due("ice 0 ice 5", x.hold(1, 9), 5);
        due("start start", x.hold(2, 2), 1);
        due("no flag of the one ahead", x.hold(3, 2) + x.hold(3, 9), 0);

        says(0, "numbered from 0 on, 14 at most");
        x = on("hold 7 1;" + "hold 0 0;".repeat(12) + "hold 8 1;");
        due("HOLDS", x.count(0), 14);
        due("the first", x.hold(0, 0), 7);
        due("the 14th", x.hold(13, 0), 8);
        due("no 15th", x.hold(14, 0), -8);
        fault("hold 0 0;".repeat(15), 4, 126);

        firstAndLastHold();
        allOfOneSort();

        says(0, "guide: LEG 0 to 99, WEIGHT 0 to 99 (0); numbered from 0 on, 5 at most");
        x = on("guide leg 0;guide leg 99 weight 0;guide leg 1 weight 99;guide leg 2;guide leg 3 weight 4;");
        int[][] guides = {{0, 0}, {99, 0}, {1, 99}, {2, 0}, {3, 4}};
        for (int g = 0; g < 5; g++) for (int what = 0; what < 2; what++) due("guide(" + g + ", " + what + ")", x.guide(g, what), guides[g][what]);
        due("no 6th", x.guide(5, 0), -2);
        fault("guide leg 100;", 3, 10);
        fault("guide leg 1 weight 100;", 3, 19);
        fault("guide leg -1;", 2, 10);
        fault("guide leg 1;".repeat(6), 4, 60);

        says(0, "used: a HOLD, by a GUIDE (both told ahead; neither start nor top)");
        x = on("hold 0 0;".repeat(14) + "guide leg 1;".repeat(5) + "used 13 by 4;used 0 by 0;");
        due("by the last guide", x.guide(4, 2), 1 << 13);
        due("by the first guide", x.guide(0, 2), 1);
        fault("used 0 by 0;", 3, 5);
        fault("hold 1 1;guide leg 1;used 1 by 0;", 3, 26);
        fault("hold 1 1;guide leg 1;used 999 by 0;", 3, 26);
        fault("hold 1 1;guide leg 1;used 0 by 1;", 3, 31);
        fault("hold 1 1;guide leg 1;used 0 by 999;", 3, 31);
        fault("guide leg 1;used 0 by 0;hold 1 1;", 3, 17);
        fault("hold 1 1;used 0 by 0;guide leg 1;", 3, 19);
        fault("hold 1 1;hold 1 1 start;guide leg 1;used 0 by 0;used 1 by 0;", 3, 53);
        fault("hold 1 1;hold 1 1 top;guide leg 1;used 1 by 0;", 3, 39);
        fault("hold 1 1 start top;guide leg 1;used 0 by 0;", 3, 36);

        says(0, "broken: a HOLD told ahead");
        x = on("hold 0 0 start;".repeat(13) + "hold 0 0 top;broken 13;broken 0;");
        due("broken ones", x.count(9), 2);
        due("the last one", x.hold(13, 8), 1);
        fault("broken 0;", 3, 7);
        fault("hold 1 1;broken 1;", 3, 16);
        fault("hold 1 1;broken 999;", 3, 16);
        fault("broken 0;hold 1 1;", 3, 7);

        says(0, "day: the first DAY, 0 to 999 (0)");
        due("without", on("hold 1 1;").count(2), 0);
        due("0", on("day 0;").count(2), 0);
        due("999", on("day 999;").count(2), 999);
        fault("day 1000;", 1, 4);
        fault("day -1;", 2, 4);

        says(0, "Later ones of step, day strike; of one HOLD a later used.");
        due("day", on("day 999;day 0;").count(2), 0);
        due("step", on("hold 0 0;hold 0 1;guide leg 1;step : 1 = 1;step : 1 = 2;").steps(0, 0, 1), 0);
        x = on("hold 0 0;hold 0 0;guide leg 1;guide leg 1;used 0 by 1;used 1 by 1;used 0 by 0;");
        due("used", x.hold(0, 6), 0);
        due("of another HOLD", x.hold(1, 6), 1);
        due("USED ones", x.count(4), 2);

        says(0, "(USED so: on the first DAY.)");
        due("day told ahead", on("day 999;hold 0 0;guide leg 1;used 0 by 0;").hold(0, 7), 999);
        due("day told behind", on("hold 0 0;guide leg 1;used 0 by 0;day 5;day 8;").hold(0, 7), 8);
        due("no day", on("hold 0 0;guide leg 1;used 0 by 0;").hold(0, 7), 0);
    }

    /** Holds 0 and 13 side by side between a start and a top; ten others are out of the way. */
    static void firstAndLastHold() {
        String far = "hold 0 9;".repeat(10);
        FootholdWall x = on("hold 0 1;hold 0 0 start;hold 0 2 top;" + far + "hold 0 1;guide leg 1;guide leg 1;step : up = 1;");
        int last = 1 << 13;
        due("steps to the first", x.steps(0, 1, 0), 1);
        due("steps to the last", x.steps(0, 1, 13), 1);
        due("reach", x.reach(0), 7 | last);
        due("way", x.way(0, 11), 0);
        due("ways", x.ways(0), 2);
        due("climbs", x.climbs(0, 7), 2);
        due("parties", x.parties(0), 2);
        due("shut", x.shut(0, 1), 1 | last);
        due("needed", x.needed(0), 0);
        due("idle", x.idle(0), 0x3fff & ~(7 | last));
        due("together", x.together(0, 1), 1);
        due("dearest", x.dearest(0), 0);
        due("whose of the first", x.whose(1), 3);
        due("whose of the last", x.whose(last), 3);
        due("order of the last", x.order(0, last, 11), 13);
        due("saved", x.saved(0), 1);
        due("leaves", x.leaves(0, 0), 1);
        due("inTurn", x.inTurn(3, 0), 2);
        tray(x, 0, 1, 13, 2, 0);
        judged("the first behind a TOP", x, 4, 3, 0);
        tray(x, 1, 1, 13, 2);
        due("a climb over the last", x.climb(0), 1);
        due("USED by it: the last alone", x.guide(1, 2), last);
        x.undo(1);
        due("goes", x.goes(1), 1);
        due("USED by", x.hold(0, 6), 1);
        due("needed then", x.needed(0), last);
        due("needers", x.needers(13), 3);
        due("shut then", x.shut(0, 1), last);
        due("dearest then", x.dearest(0), 13);
        due("saved then", x.saved(0), last);
        due("leaves then", x.leaves(0, 0), 0);
        x.days(1);
        due("goes", x.goes(0), 1);
        due("USED by", x.hold(13, 6), 0);
        due("USED on", x.hold(13, 7), 1);
        due("rain", x.rain(1), 1);
        due("the first comes back", x.hold(0, 5), 1);
        due("breaks the last", x.breaks(13), 1);
        due("breaks the first", x.breaks(0), 0);
        due("needers of none", x.needers(0), 0);
        x = on("hold 0 1;hold 0 0 start;hold 0 2 top;" + far + "hold 0 1;guide leg 1;used 0 by 0;used 13 by 0;day 9;");
        due("told used: the first", x.hold(0, 7), 9);
        due("told used: the last", x.hold(13, 7), 9);
        due("told used: of the guide", x.guide(0, 2), 1 | last);
        // A top is the first, a start the last.
        x = on("hold 0 2 top;hold 0 1;" + "hold 9 9;".repeat(10) + "hold 0 1;hold 0 0 start;guide leg 9;step : up = 1;");
        due("way from the last", x.way(0, 10), 13);
        due("way to the first", x.way(0, 12), 0);
        due("climbs", x.climbs(0, 3), 2);
        due("idle", x.idle(0), 0x3fff & ~(3 | 1 << 12 | last));
        due("shut", x.shut(0, 1), 2 | 1 << 12);
        due("order", x.order(0, 2, 12), 0);
        due("highest", x.highest(0), 2);
        tray(x, 0, 13, 1, 0);
        judged("told", x, -1, 0, 1);
    }

    /** All holds of one sort. */
    static void allOfOneSort() {
        FootholdWall x = on("hold 0 0 start top;".repeat(14) + "guide leg 0;");
        due("all START and TOP: climbs", x.climbs(0, 7), 14);
        due("ways", x.ways(0), 14);
        due("idle", x.idle(0), 0);
        due("reach", x.reach(0), 0x3fff);
        due("parties", x.parties(0), 99);
        due("saved", x.saved(0), 0);
        due("whose", x.whose(0), 1);
        due("whose of the first", x.whose(1), -3);
        x = on("hold 0 0 start;".repeat(14) + "guide leg 0;");
        due("all START: way", x.way(0, 0), -1);
        due("climbs", x.climbs(0, 7) + x.ways(0), 0);
        due("idle", x.idle(0), 0x3fff);
        due("reach", x.reach(0), 0x3fff);
        due("parties", x.parties(0), 0);
        due("shut", x.shut(0, 1), 0);
        due("whose", x.whose(0), 0);
        due("leastLeg", x.leastLeg(0), -1);
        x = on("hold 0 0 top;".repeat(14) + "guide leg 0;");
        due("all TOP: way", x.way(0, 0), -1);
        due("climbs", x.climbs(0, 7) + x.ways(0), 0);
        due("idle", x.idle(0), 0x3fff);
        due("reach", x.reach(0), 0);
        due("highest", x.highest(0), -1);
        due("saved", x.saved(0), -1);
        x = on("hold 0 0;".repeat(14) + "guide leg 0;");
        due("none of both: way", x.way(0, 0), -1);
        due("whose of all", x.whose(0x3fff), 0);
        due("order of all", x.order(0, 0x3fff, 0), -1);
        due("idle", x.idle(0), 0x3fff);
        due("needed", x.needed(0), 0);
        due("parties", x.parties(0), 0);
        x = on("hold 0 0 start;" + "hold 0 0 top;".repeat(13) + "guide leg 0;");
        due("13 TOPS: climbs", x.climbs(0, 7), 13);
        x = on("hold 0 0 top;" + "hold 0 0 start;".repeat(13) + "guide leg 0;");
        due("13 STARTS: ways", x.ways(0), 13);
        due("to the first", x.way(0, 10) * 100 + x.way(0, 11), 100);
        due("climbs of 3", x.climbs(0, 3), 13 + 13 * 12);
        due("order", x.order(0, 0, 0), 2);
    }

    // ---- the law's language

    static void laws() {
        says(0, "TRUTH: BOTH { or BOTH }; BOTH: UNIT { and UNIT }");
        due("one", lawful("1 = 1"), 1);
        due("three by or", lawful("1 = 2 or 1 = 2 or 1 = 1"), 1);
        due("three by and", lawful("1 = 1 and 1 = 1 and 1 = 2"), 0);
        due("the first of three decides: or", lawful("1 = 1 or 1 = 2 or 1 = 2"), 1);
        due("the first of three decides: and", lawful("1 = 2 and 1 = 1 and 1 = 1"), 0);
        due("the second of three decides: or", lawful("1 = 2 or 1 = 1 or 1 = 2"), 1);
        due("the second of three decides: and", lawful("1 = 1 and 1 = 2 and 1 = 1"), 0);
        due("decided within [ ]", lawful("not [1 = 1 or 1 = 2] or not [1 = 2 and 1 = 1]"), 1);
        due("or behind and", lawful("1 = 2 and 1 = 1 or 1 = 1"), 1);
        due("and behind or", lawful("1 = 1 or 1 = 1 and 1 = 2"), 1);
        fault("step : ;", 2, 7);
        fault("step : or 1 = 1;", 2, 7);
        fault("step : 1 = 1 or;", 2, 15);
        fault("step : 1 = 1 and or 1 = 1;", 2, 17);
        fault("step : 1 = 1 1 = 1;", 2, 13);

        says(0, "UNIT: not UNIT, [ TRUTH ], or SUM, one of = < >, SUM");
        due("=", lawful("2 = 2"), 1);
        due("= less", lawful("1 = 2"), 0);
        due("<", lawful("1 < 2"), 1);
        due("< like", lawful("2 < 2"), 0);
        due(">", lawful("3 > 2"), 1);
        due("> like", lawful("2 > 2"), 0);
        due("not", lawful("not 1 = 2"), 1);
        due("not not", lawful("not not 1 = 2"), 0);
        due("not of <", lawful("not 1 < 2") + lawful("not 2 < 1"), 1);
        due("not of >", lawful("not 2 > 1"), 0);
        due("not of > like", lawful("not 2 > 2"), 1);
        due("not of one alone", lawful("not 1 = 2 or 1 = 1"), 1);
        due("not of all", lawful("not [1 = 2 or 1 = 1]"), 0);
        fault("step : not;", 2, 10);
        fault("step : [];", 2, 8);
        fault("step : [1 = 1;", 2, 13);
        fault("step : [1 = 1);", 2, 13);
        fault("step : 1;", 2, 8);
        fault("step : 1 =;", 2, 10);
        fault("step : = 1;", 2, 7);
        fault("step : 1 < > 1;", 2, 11);
        fault("step : 1 = 1 = 1;", 2, 13);

        says(0, "SUM: TERM { + TERM | - TERM }; TERM: ATOM { * ATOM }");
        due("1 - 1 - 1", lawful("1 - 1 - 1 < 0"), 1);
        due("2 * 2 * 2", lawful("2 * 2 * 2 = 8"), 1);
        due("* ahead of -", lawful("9 - 2 * 3 = 3"), 1);
        fault("step : 1 + = 1;", 2, 11);
        fault("step : - 1 = 1;", 2, 7);
        fault("step : 1 * * 1 = 1;", 2, 11);
        fault("step : 1 - - 1 = 1;", 2, 11);

        says(0, "ATOM: N, dx, up, far, leg, weight, wide, day, ( SUM )");
        String[] atoms = {"0", "999", "dx", "up", "far", "leg", "weight", "wide", "day", "(1)", "(1-1)"};
        int[] values = {0, 999, 2, 4, 6, 4, 6, 1, 7, 1, 0};
        for (int i = 0; i < atoms.length; i++) due(atoms[i], lawful(atoms[i] + " = " + values[i]), 1);
        fault("step : () = 1;", 2, 8);
        fault("step : (1 = 1;", 2, 10);
        fault("step : (1] = 1;", 2, 9);
        fault("step : (1 = 1) ;", 2, 10);
        fault("step : rope = 1;", 2, 7);
        fault("step : start = 1;", 2, 7);

        says(0, "At most six of not [ ( within one another.");
        String[] open = {"not ", "[", "("};
        for (String last : open) {
            String six = "not [not [not [";
            int place = 7 + six.length();
            if (last.equals("(")) fault("step : " + six + "(1) = 1]]];", 4, place);
            if (last.equals("[")) fault("step : " + six + "[1 = 1]]]];", 4, place);
            if (last.equals("not ")) fault("step : " + six + "not 1 = 1]]];", 4, place);
        }
        fine("step : not [not [not [1 = 1]]];", 1);
        fine("step : " + "not ".repeat(6) + "1 = 1;", 1);
        fault("step : " + "not ".repeat(7) + "1 = 1;", 4, 31);
        fine("step : " + "[".repeat(6) + "1 = 1" + "]".repeat(6) + ";", 1);
        fault("step : " + "[".repeat(7) + "1 = 1" + "]".repeat(7) + ";", 4, 13);
        fine("step : " + "(".repeat(6) + "1" + ")".repeat(6) + " = 1;", 1);
        fault("step : " + "(".repeat(7) + "1" + ")".repeat(7) + " = 1;", 4, 13);
        fault("step : 1 = " + "(".repeat(7) + "1" + ")".repeat(7) + ";", 4, 17);
        fault("step : not " + "[".repeat(5) + "1 = 1 and 2 * (1) = 1" + "]".repeat(5) + ";", 4, 30);
        due("one behind the other: not", lawful("not 1 = 2 and ".repeat(8) + "not 1 = 2"), 1);
        due("one behind the other: [", lawful("[1 = 2] or ".repeat(8) + "[1 = 1]"), 1);
        due("one behind the other: (", lawful("(1) + ".repeat(8) + "(1) = 9"), 1);
        due("six, closed, six again", lawful("[[[[[[1 = 1]]]]]] and ((((((1)))))) = 1 and not not not not not not 1 = 1"), 1);
        due("( closed within [", lawful("[[[[[(1) + (1) = 2 and not 1 = 2]]]]]"), 1);
    }

    // ---- tokens and faults

    static void tokens() {
        says(0, "TOKENS, as long as they go on, between them blanks (10, 32)");
        for (int b = 0; b < 256; b++) {
            String text = "hold 1" + (char) b + "1;";
            boolean blank = b == 10 || b == 32;
            boolean digit = b >= '0' && b <= '9';
            boolean letter = b >= 'a' && b <= 'z';
            boolean sign = b != 0 && ";:+-*()[]=<>".indexOf(b) >= 0;
            if (blank) fine(text, 1);
            else if (digit) fault(text, 3, 5);
            else fault(text, letter || sign ? 2 : 1, 6);
        }
        fine("\n\n hold\n1 \n 1start\ntop ; \n", 1);
        fine("hold1 1start top;guide leg1weight1;", 2);
        fault("hold 1 1 starttop;", 2, 9);
        fault("hold 11;", 2, 7);
        fault("ho ld 1 1;", 2, 0);
        fault("hold 1 1 st art;", 2, 9);

        says(0, "words (small letters)");
        fault("Hold 1 1;", 1, 0);
        fault("holD 1 1;", 2, 0);
        fault("HOLD", 1, 0);
        fault("hold 1 1 ice_ 5;", 1, 12);
        fault("hold`1 1;", 1, 4);
        fault("hold{1 1;", 1, 4);
        fault("a".repeat(900), 2, 0);
        String[] known = {"hold", "guide", "step", "used", "broken", "day"};
        for (String word : known) {
            fault("z" + word.substring(1) + " 1 1;", 2, 0);
            fault(word.substring(0, word.length() - 1) + "z 1 1;", 2, 0);
            fault(word + "s 1 1;", 2, 0);
            fault(word.substring(1) + " 1 1;", 2, 0);
        }
        for (String flag : new String[] {"start", "top", "wide", "ice"}) {
            fault("hold 1 1 z" + flag.substring(1) + " 5;", 2, 9);
            fault("hold 1 1 " + flag + "z 5;", 2, 9);
        }
        for (String atom : new String[] {"dx", "up", "far", "leg", "weight", "wide", "day", "not"}) {
            fault("step : z" + atom.substring(1) + " = 1;", 2, 7);
            fault("step : " + atom + "z = 1;", 2, 7);
        }

        says(0, "N (1 to 3 digits)");
        fine("day 9;day 99;day 999;day 0;day 00;day 000;day 009;", 7);
        fault("day 0000;", 1, 4);
        fault("day 1234567;", 1, 4);
        fault("day " + "1".repeat(896), 1, 4);
        fault("day 4294967296;", 1, 4);
        fault("hold 1 /;", 1, 7);
        fault("hold 1 :;", 2, 7);
        due("the greatest in a law", lawful("999 = 998 + 1"), 1);
        fault("step : 1000 = 1;", 1, 7);

        says(0, "the signs ; : + - * ( ) [ ] = < >");
        String signs = ";:+-*()[]=<>";
        for (int i = 0; i < signs.length(); i++) fault(signs.substring(i, i + 1), 2, 0);
        for (String other : new String[] {",", ".", "/", "?", "@", "!", "\"", "#", "$", "%", "&", "'", "\\", "^", "_", "{", "|", "}", "~"}) fault(other, 1, 0);
        fault("step : 1 <= 1;", 2, 10);
        fault("step : 1 == 1;", 2, 10);
    }

    static void faults() {
        says(0, "FAULTS, the first along the text");
        fault("hold 100 1;hold;?", 3, 5);
        fault("hold;hold 100 1;?", 2, 4);
        fault("?hold;hold 100 1;", 1, 0);
        fault("hold 1 1;used 1 by 1;", 3, 14);
        fault("hold 1 1;used 1 ?", 3, 14);

        says(0, "of one TOKEN the least kind");
        fault("day 1;1000", 1, 6);
        fault("hold 1 1000;", 1, 7);
        fault("hold 1 1 999;", 2, 9);
        fault("day 1 999;", 2, 6);
        fault("hold 1 1;".repeat(14) + "day hold 1 1;", 2, 130);
        fault("guide leg 1;".repeat(5) + "day guide;", 2, 64);
        fault("step : not not not not not not 1 + not 1 = 1;", 2, 35);
        fault("step : ((((((1 [1 = 1]", 2, 15);
        fault("step : [[[[[[1 = 1 ( 1", 2, 19);
        fault("hold 1 1;".repeat(14) + "Hold", 1, 126);

        says(0, "1 no TOKEN begins so (4 digits and more: at their first).");
        fault("day 12345;", 1, 4);
        fault("day \u0080;", 1, 4);
        fault("day \u00ff;", 1, 4);
        fault("\u007f", 1, 0);
        fault("\0", 1, 0);

        says(0, "2 it can't stand there (the end: the text's length).");
        String[] words = ("hold|1|2|ice|3|;|guide|leg|4|weight|5|;|step|:|not|[|(|1|+|dx|)|*|2|-|up|=|3|and|4|<|5|or|day|>|6|]|;|used|0|by|0|;"
            + "|broken|0|;|day|6|;").split("\\|");
        StringBuilder b = new StringBuilder();
        int lines = 0;
        for (String word : words) {
            b.append(word).append(' ');
            boolean whole = word.equals(";");
            if (whole) lines++;
            if (whole) fine(b.toString(), lines);
            else fault(b.toString(), 2, b.length());
        }
        fault("hold", 2, 4);
        fault("hold \n\n ", 2, 8);
        fault("day 1" + " ".repeat(895), 2, 900);

        says(0, "3 an N out of its bounds (a HOLD, a GUIDE that isn't told; used: a start, a top).");
        String all = "hold 1 1;".repeat(14) + "guide leg 1;".repeat(5);
        fine(all + "used 13 by 4;broken 13;", 21);
        fault(all + "used 14 by 4;", 3, 191);
        fault(all + "used 13 by 5;", 3, 197);
        fault(all + "broken 14;", 3, 193);

        says(0, "4 the first TOKEN of a 15th hold, a 6th guide; a seventh of not [ (.");
        fine(all, 19);
        fault(all + "hold", 4, 186);
        fault(all + "hold 100 ?", 4, 186);
        fault(all + " guide ?", 4, 187);
        fault("step : ((((((1)+((1", 4, 17);
    }

    // ---- holds, steps

    static void holdsAndSteps() {
        says(0, "A HOLD is THERE on a DAY, if it isn't broken, and its ice's DAY has come.");
        FootholdWall x = on("hold 0 0 ice 2;hold 0 0;hold 0 0 ice 2;broken 2;day 1;");
        due("ice's DAY has not come", x.hold(0, 4), 0);
        due("without ice", x.hold(1, 4), 1);
        x.days(1);
        due("ice's DAY", x.hold(0, 4), 1);
        due("ice's DAY, but broken", x.hold(2, 4), 0);
        x.newYear();
        due("DAY 0 again", x.hold(0, 4), 0);

        says(0, "It is OPEN, if it is THERE and not USED; START and TOP HOLDS are never USED.");
        x = on("hold 0 0 start;hold 0 1;hold 0 2 start;hold 0 3;hold 0 4 top;guide leg 1;");
        tray(x, 0, 0, 1, 2, 3, 4);
        due("climb over a START", x.climb(0), 2);
        int[] open = {1, 0, 1, 0, 1};
        for (int h = 0; h < 5; h++) {
            due("OPEN " + h, x.hold(h, 5), open[h]);
            due("THERE " + h, x.hold(h, 4), 1);
            due("USED " + h, x.hold(h, 6), open[h] - 1 == 0 ? -1 : 0);
        }
        x = on("hold 0 0 ice 3;guide leg 1;used 0 by 0;");
        due("USED ahead of its ice's DAY: THERE", x.hold(0, 4), 0);
        due("by whom", x.hold(0, 6), 0);
        x.days(3);
        due("THERE, but USED", x.hold(0, 4) * 10 + x.hold(0, 5), 10);

        says(0, "dx: how far in x (no sign), up: y more (below 0: less), far: dx and how far in y together");
        String ends = "hold 0 99;hold 99 0;guide leg 1;step : ";
        due("dx 99", on(ends + "dx = 99;").steps(0, 0, 1) + on(ends + "dx = 99;").steps(0, 1, 0), 2);
        due("up less 99", on(ends + "up = 0 - 99;").steps(0, 0, 1), 1);
        due("up 99", on(ends + "up = 99;").steps(0, 1, 0), 1);
        due("far 198", on(ends + "far = 198;").steps(0, 0, 1) + on(ends + "far = 198;").steps(0, 1, 0), 2);
        String same = "hold 5 5;hold 5 5;guide leg 1;step : ";
        due("all 0", on(same + "dx = 0 and up = 0 and far = 0;").steps(0, 0, 1), 1);

        says(0, "wide: 1 if the HOLD stepped to is wide, else 0, day: DAY");
        x = on("hold 0 0 wide;hold 0 0;guide leg 1;step : wide = 1;");
        due("from a wide one", x.steps(0, 0, 1), 0);
        due("to a wide one", x.steps(0, 1, 0), 1);
        x = on("hold 0 0;hold 0 0;guide leg 1;step : day = 999 + 99;day 999;");
        due("DAY 999", x.steps(0, 0, 1), 0);
        x.days(99);
        due("DAY 1098", x.steps(0, 0, 1), 1);

        says(0, "each + - * kept from -1,000,000 to 1,000,000");
        String million = "1000 * 1000".replace("1000", "(999 + 1)");
        due("a million itself", lawful("999 * 999 + 999 + 999 < " + million), 1);
        due("less a million itself", lawful("0 - 999 * 999 - 999 - 999 > 0 - " + million), 1);
        due("* to a million", lawful(million + " = 999 * 999 + 999 + 999 + 1"), 1);
        due("* just below", lawful("(" + million + " - 1) * 1 = " + million), 0);
        due("* just above", lawful("(999 + 2) * (999 + 1) = " + million), 1);
        due("* far above", lawful(million + " * " + million + " = " + million), 1);
        due("* around an int's end", lawful(million + " * 999 * 999 > 0"), 1);
        due("+ just below", lawful(million + " - 1 + 0 < " + million), 1);
        due("+ to a million", lawful("(" + million + " - 1) + 1 = " + million), 1);
        due("+ just above", lawful("(" + million + " + 1) - 1 = " + million + " - 1"), 1);
        due("+ far above", lawful("(" + million + " + " + million + ") - 1 = " + million + " - 1"), 1);
        due("- to less a million", lawful("(0 - " + million + ") + 1 > 0 - " + million), 1);
        due("not below less a million", lawful("0 - 999 * 999 - 999 - 999 - 1 - 1 = 0 - " + million), 1);
        due("- just below that", lawful("(0 - " + million + " - 1) + 1 = 1 - " + million), 1);
        due("- far below", lawful("(0 - " + million + " - " + million + ") + 1 = 1 - " + million), 1);
        due("* below less a million", lawful("(0 - 999 - 2) * (999 + 1) = 0 - " + million), 1);
        due("- above a million", lawful("(1 - (0 - " + million + ")) - 1 = " + million + " - 1"), 1);
        due("less times less", lawful("(0 - " + million + ") * (0 - " + million + ") = " + million), 1);
        due("each, not the whole", lawful("999 * 999 * 2 - 999 * 999 = 999 * 999"), 0);

        says(0, "Without a law: far is its LEG at most.");
        String legs = "hold 0 0;hold 0 0;hold 1 0;hold 0 99;hold 1 99;guide leg 0;guide leg 1;guide leg 99;";
        x = on(legs);
        int[][] steps = {{1, 0, 0, 0}, {1, 1, 0, 0}, {1, 1, 1, 0}};
        for (int g = 0; g < 3; g++) for (int to = 1; to < 5; to++) due("steps(" + g + ", 0, " + to + ")", x.steps(g, 0, to), steps[g][to - 1]);
    }

    // ---- climbs

    static void climbing() {
        says(0, "A CLIMB of a GUIDE: HOLDS, unlike ones, OPEN all, the first a START, the last a TOP, no TOP ahead of the last");
        FootholdWall x = on("hold 0 0 start;hold 0 1;hold 0 2 top;hold 0 3;hold 0 4 top;guide leg 1;");
        tray(x, 0, 0, 1, 2);
        judged("up to the first TOP", x, -1, 0, 1);
        tray(x, 0, 0, 1, 2, 3, 4);
        judged("over a TOP", x, 4, 3, 0);
        due("climbs over a TOP", x.climbs(0, 7), 1);
        x = on("hold 0 0 start;hold 0 1;hold 1 1;hold 0 2 top;guide leg 1;");
        due("none twice", x.climbs(0, 7), 1);

        says(0, "(one that is START and TOP is a CLIMB by itself)");
        x = on("hold 5 5 start top;guide leg 0;");
        tray(x, 0, 0);
        judged("by itself", x, -1, 0, 0);
        due("way", x.way(0, 0), 1);
        due("climbs(0, 1)", x.climbs(0, 1), 1);
        due("goes", x.goes(0), 0);
        x.breaks(0);
        due("broken: way", x.way(0, 0), -1);
        x = on("hold 0 0 start;hold 0 1 start top;hold 0 2 top;guide leg 1;");
        due("nothing behind it, something ahead of it", x.climbs(0, 7), 2);

        says(0, "Those that are neither START nor TOP are USED by it on that DAY then.");
        x = on(LONG + "day 999;");
        due("twelve at most", x.goes(0), 12);
        due("as bits", x.guide(0, 2), 0x1ffe);
        due("on that DAY", x.hold(12, 7), 999);
        due("START", x.hold(0, 7), -1);
        due("TOP", x.hold(13, 7), -1);

        says(0, "RAIN of n: n USED HOLDS come back (all, if there are fewer)");
        for (int n = 1; n <= 14; n++) {
            x = on(LONG);
            x.goes(0);
            due("rain(" + n + ") of 12", x.rain(n), Math.min(n, 12));
            due("USED still", x.count(4), 12 - Math.min(n, 12));
            due("the first of like ones", x.guide(0, 2), 0x1ffe & -2 << Math.min(n, 12));
        }

        says(0, "those USED longest ago, of like ones the first");
        x = on("hold 0 0 start;hold 0 1;hold 0 1;hold 0 1;hold 0 2 top;guide leg 9;step : up = 1;");
        int[] first = {3, 1, 2};
        for (int h : first) {
            tray(x, 0, 0, h, 4);
            x.climb(0);
            x.days(h == 3 ? 1 : 9);
        }
        for (int h : first) {
            due("rain", x.rain(1), 1);
            due("OPEN again", x.hold(h, 5), 1);
        }
        x.newYear();
        tray(x, 0, 0, 3, 4);
        x.climb(0);
        tray(x, 0, 0, 1, 4);
        x.climb(0);
        due("two climbs of one DAY", x.rain(1), 1);
        due("like ones: the first by number", x.hold(1, 5) * 10 + x.hold(3, 5), 10);

        says(0, "A NEW YEAR: none is USED, DAY is 0.");
        x = on(LONG + "day 999;");
        x.goes(0);
        due("newYear", x.newYear(), 12);
        due("USED", x.count(4), 0);
        due("DAY", x.count(2), 0);
        due("by whom", x.hold(1, 6), -1);
        due("of the guide", x.guide(0, 2), 0);
    }

    static void toldClimbs() {
        says(0, "1 no such GUIDE (at place 0), HOLD");
        FootholdWall x = on(LADDER);
        for (long g : new long[] {-1, 3, 5, MIN, MAX, 1L << 32, Long.MIN_VALUE, Long.MAX_VALUE, -1L << 32}) {
            tray(x, g, 0, 3);
            judged("GUIDE " + g, x, 0, 1, 0);
        }
        for (long h : new long[] {-1, 4, 14, 32, MIN, MAX, 1L << 32, Long.MIN_VALUE, Long.MAX_VALUE, -1L << 32}) {
            tray(x, 2, h);
            judged("HOLD " + h, x, 1, 1, 0);
            tray(x, 2, 0, 3, h);
            judged("HOLD " + h + " behind a climb", x, 3, 1, 0);
        }
        tray(x, 2, 0, 3);
        judged("the last GUIDE, the last HOLD", x, -1, 0, 0);
        tray(x, 3, 99);
        judged("GUIDE ahead of HOLD", x, 0, 1, 0);

        says(0, "2 it isn't OPEN, or was in it already");
        x = on(LADDER + "hold 0 1 ice 5;hold 0 1;hold 0 0 start;used 1 by 0;broken 5;broken 6;");
        tray(x, 2, 0, 1, 3);
        judged("USED", x, 2, 2, 0);
        tray(x, 2, 0, 4, 3);
        judged("its ice hasn't come", x, 2, 2, 0);
        tray(x, 2, 0, 5, 3);
        judged("broken", x, 2, 2, 0);
        tray(x, 2, 6, 3);
        judged("a broken START", x, 1, 2, 0);
        tray(x, 2, 0, 0);
        judged("the START again", x, 2, 2, 0);
        tray(x, 2, 0, 2, 2);
        judged("the one ahead", x, 3, 2, 0);
        tray(x, 2, 0, 3, 3);
        judged("a TOP again: 2 ahead of 3", x, 3, 2, 0);
        tray(x, 2, 1);
        judged("no START, and USED: 2 ahead of 3", x, 1, 2, 0);
        x.days(5);
        tray(x, 2, 0, 4, 3);
        judged("its ice has come", x, -1, 0, 1);

        says(0, "3 it can't begin there (no START), be stepped to, a TOP stands ahead of it");
        x = on(LADDER);
        tray(x, 2, 1, 3);
        judged("no START", x, 1, 3, 0);
        tray(x, 2, 3);
        judged("a TOP alone", x, 1, 3, 0);
        tray(x, 0, 0, 2, 3);
        judged("too far", x, 2, 3, 0);
        tray(x, 2, 0, 3, 2);
        judged("a TOP ahead", x, 3, 3, 0);

        says(0, "4 it doesn't end on a TOP (at the place behind all; also without HOLDS)");
        tray(x, 2);
        judged("without HOLDS", x, 1, 4, 0);
        tray(x, 2, 0);
        judged("on a START", x, 2, 4, 0);
        tray(x, 2, 0, 1, 2);
        judged("in between", x, 4, 4, 0);
        x = on(LONG);
        tray(x, 0, 0, 1, 2, 3, 4, 5, 6, 7, 8, 9, 10, 11, 12);
        judged("one short of the longest", x, 14, 4, 0);
        tray(x, 0, 0, 1, 2, 3, 4, 5, 6, 7, 8, 9, 10, 11, 12, 13);
        judged("the longest", x, -1, 0, 12);
        x.numbers(0, 0, 40);
        judged("a full TRAY of 0", x, 2, 2, 0);

        says(0, "In a TRAY with nothing: 1 at place 0.");
        for (int sort = 0; sort < 4; sort++) {
            x.numbers(0, sort, 0);
            judged("nothing", x, 0, 1, 0);
        }
        x = new FootholdWall();
        x.numbers(0, 0, 0);
        judged("nothing, no wall", x, 0, 1, 0);
        x.numbers(0, 0, 1);
        judged("no wall", x, 0, 1, 0);
    }

    // ---- undoing

    static void undoing() {
        says(0, "Calls that did some (RAIN by which none came back, a SEASON in which nothing was done aside) can be UNDONE each as a whole");
        FootholdWall x = on(LADDER + "hold 9 9;");
        int can = 0;
        tray(x, 2, 0, 3);
        x.climb(0);
        due("a climb that uses none", x.count(6), ++can);
        x.goes(2);
        due("a WAY that uses none", x.count(6), ++can);
        x.goes(0);
        due("a WAY", x.count(6), ++can);
        x.days(1);
        due("days", x.count(6), ++can);
        x.rain(14);
        due("RAIN", x.count(6), ++can);
        x.rain(14);
        due("RAIN by which none came back", x.count(6), can);
        x.breaks(4);
        due("breaks", x.count(6), ++can);
        x.newYear();
        due("a new year", x.count(6), ++can);
        x.newYear();
        due("a new year behind another", x.count(6), ++can);
        x.season(0, 1);
        due("a SEASON of a DAY", x.count(6), ++can);
        x.image(0);
        x.numbers(0, 0, 4);
        x.write(0, 0, 1);
        x.lists(0, 1);
        x.judge(0, 0);
        x.inTurn(7, 0);
        x.leaves(0, 1);
        feed(x, "day 1;");
        due("calls that only tell", x.count(6), can);
        due("each as a whole", x.undo(1), can - 1);
        due("the DAY of the season", x.count(2), 0);

        // Seeds whose first draw is 1, 2 or 3 modulo 4.
        for (int kind = 1; kind < 4; kind++) {
            int seed = 0;
            while (draw(seed) % 4 != kind) seed++;
            x = on("hold 0 0 start;hold 0 9 top;guide leg 1;");
            due("a SEASON without a WAY, without RAIN", x.season(seed, 1), 0);
            due("nothing was done", x.count(6), 0);
            due("no undo", x.undo(1), -3);
            x = on("hold 0 0 start;hold 0 1;hold 0 2 top;hold 9 9;guide leg 1;used 3 by 0;");
            x.season(seed, 1);
            due("something was done", x.count(6), 1);
        }

        undoneEach();

        says(0, "the latest first, 10 at most (eldest are forgotten)");
        for (int calls : new int[] {1, 9, 10, 11, 19, 20, 21, 35}) {
            x = on(LADDER);
            for (int i = 0; i < calls; i++) x.days(1 + i % 3);
            int most = Math.min(calls, 10);
            due(calls + " calls", x.count(6), most);
            int day = x.count(2);
            for (int k = 1; k <= most; k++) {
                due("undo(1)", x.undo(1), most - k);
                day -= 1 + (calls - k) % 3;
                due("DAY", x.count(2), day);
            }
            due("no more", x.undo(1), -3);
            due("DAY stays", x.count(2), day);
        }
        x = on(LADDER);
        for (int round = 0; round < 7; round++) {
            for (int i = 0; i < 13; i++) x.days(2);
            due("undo(10) of 13", x.undo(10), 0);
            due("DAY", x.count(2), 6 * (round + 1));
        }

        says(0, "USED, broken ones, DAY, YEARS gone by.");
        x = on(LADDER + "used 1 by 2;day 7;");
        x.numbers(0, 0, 0);
        x.breaks(1);
        x.newYear();
        x.days(3);
        x.goes(2);
        x.numbers(0, 0, 1);
        feed(x, "day 1;");
        due("undo(4)", x.undo(4), 0);
        due("USED by", x.hold(1, 6), 2);
        due("USED on", x.hold(1, 7), 7);
        due("broken", x.count(9), 0);
        due("DAY", x.count(2), 7);
        due("YEARS", x.count(3), 0);
        due("TRAYS stay", x.judge(0, 0), 1);
        due("THE TAPE stays", x.count(7), 20);
    }

    /** Each sort of call that did some: undone, all is as it was ahead of it alone. */
    static void undoneEach() {
        RefusedCalls.Call[] calls = {x -> x.climb(0), x -> x.goes(1), x -> x.goes(2), x -> x.days(99), x -> x.rain(1), x -> x.rain(14),
            x -> x.breaks(0), x -> x.breaks(4), x -> x.newYear(), x -> x.season(0, 1), x -> x.season(7, 40)};
        for (int i = 0; i < calls.length; i++) {
            FootholdWall x = on(LADDER + "hold 5 5;hold 6 6;used 4 by 0;used 5 by 1;day 4;");
            x.breaks(5);
            x.days(3);
            tray(x, 1, 0, 2, 3);
            String was = RefusedCalls.seen(x);
            due("call " + i + " is refused", calls[i].on(x) < 0 ? 1 : 0, 0);
            due("call " + i + " can be undone", x.undo(1), 2);
            due("call " + i + " is undone", RefusedCalls.seen(x).equals(was) ? 1 : 0, 1);
        }
    }

    static int draw(int seed) { return (1103515245 * seed + 12345) >>> 16; }

    // ---- as all is

    static void asAllIs() {
        says(0, "A WAY of a GUIDE: a CLIMB with the fewest HOLDS; the first by HOLDS' numbers.");
        FootholdWall x = on(FULL);
        due("of twelve the first", x.way(0, 11), 1);
        x.goes(4);
        due("then the next", x.way(0, 11), 2);
        x = on("hold 0 0 start;hold 0 2 top;hold 0 1;hold 1 0 start;hold 1 2 top;hold 1 1;guide leg 1;");
        due("by numbers in turn", x.way(0, 10) * 100 + x.way(0, 11) * 10 + x.way(0, 12), 21);

        x = on("hold 9 0 start;hold 5 0 start;hold 4 0;hold 4 1;hold 5 1;hold 5 2;hold 5 3 top;guide leg 1;");
        int[] way = {1, 4, 5, 6};
        for (int k = 0; k < 4; k++) due("no blind alleys " + k, x.way(0, 10 + k), way[k]);
        x = on("hold 0 9;hold 0 8 start;hold 0 0 start;hold 0 1 top;hold 0 2 top;guide leg 1;");
        due("the START that leads on", x.way(0, 10), 2);

        says(0, "On this DAY, as all is");
        x = on("hold 0 0 start;hold 0 1;hold 0 2 top;guide leg 1 weight 3;guide leg 1 weight 4;step : day = 5 and weight = 3 or day = 6 and leg = weight;");
        int[] able = {0, 1, 0};
        for (int i = 0; i < 3; i++) {
            x.days(i == 0 ? 4 : 1);
            due("able on DAY " + (4 + i), x.able(), able[i]);
            due("way of 0 on DAY " + (4 + i), x.way(0, 0), able[i] == 0 ? -1 : 2);
            due("opens of 0 on DAY " + (4 + i), x.opens(0), i < 2 ? 5 : -1);
            for (int round = 0; round < 2; round++) {
                due("leastLeg of 0 on DAY " + (4 + i), x.leastLeg(0), i == 0 ? -1 : i == 1 ? 0 : 3);
                due("leastLeg of 1 on DAY " + (4 + i), x.leastLeg(1), i == 2 ? 4 : -1);
            }
        }
        x.newYear();
        due("able on DAY 0", x.able(), 0);
        due("opens on DAY 0", x.opens(0), 5);
        x.days(5);
        due("able on DAY 5 of another year", x.able(), 1);
        x.undo(2);
        due("able undone", x.able(), 0);

        says(0, "(99: some CLIMB uses none)");
        due("START to TOP", on("hold 0 0 start;hold 0 1 top;guide leg 1;").parties(0), 99);
        due("START and TOP in one", on("hold 0 0 start top;guide leg 1;").parties(0), 99);
        due("over two STARTS", on("hold 0 0 start;hold 0 1 start;hold 0 2 top;guide leg 1;").parties(0), 99);
        due("no CLIMB", on("hold 0 0 start;hold 0 2 top;guide leg 1;").parties(0), 0);
        due("twelve at most", on(FULL).parties(4), 12);
        due("one over all", on(LONG).parties(0), 1);
        // The first way takes 1 and 3; 1, 4 and 2, 3 are two.
        x = on("hold 3 0 start;hold 2 1;hold 4 1;hold 3 2;hold 1 2;hold 3 3 top;guide leg 1;step : up = 1 and dx < 3;");
        due("the first way", x.way(0, 11) * 10 + x.way(0, 12), 13);
        due("pushed aside", x.parties(0), 2);
        due("pushed aside: shut", x.shut(0, 1), 6);

        says(0, "(none by any: some CLIMB uses none)");
        x = on("hold 0 0 start;hold 0 1 top;hold 1 0;guide leg 1;");
        due("how many", x.shut(0, 0), -1);
        due("which", x.shut(0, 1), -1);
        x = on("hold 0 0 start;hold 0 2 top;guide leg 1;");
        due("no CLIMB: how many", x.shut(0, 0), 0);
        due("no CLIMB: which", x.shut(0, 1), 0);

        says(0, "of like ones the least set as bits");
        due("of twelve the first", on(LONG).shut(0, 1), 2);
        x = on("hold 0 0 start;hold 0 13 top;" + LONG.substring(15, LONG.indexOf("hold 0 13")) + "guide leg 1;");
        due("the last HOLD aside", x.shut(0, 1), 4);
        due("of the last HOLD: needed", x.needed(0), 0x3ffc);
        x = on("hold 0 0 start;hold 0 2;hold 0 2;hold 0 3;hold 0 1;hold 0 1;hold 0 4 top;guide leg 9;step : up = 1;");
        due("the one that all need", x.shut(0, 1), 8);
        x = on("hold 0 0 start;hold 0 2;hold 0 2;hold 0 1;hold 0 1;hold 0 3 top;guide leg 9;step : up = 1;");
        due("the lower numbers", x.shut(0, 1), 6);

        says(0, "(none, if it has no CLIMB now)");
        x = on(LONG);
        due("all twelve", x.needed(0), 0x1ffe);
        x.breaks(12);
        due("no CLIMB", x.needed(0), 0);

        says(0, "the law asked with other LEGS (0 to 99): the least with which it has a CLIMB");
        due("0", on("hold 0 0 start;hold 0 0 top;guide leg 99;").leastLeg(0), 0);
        due("1", on("hold 0 0 start;hold 0 1 top;guide leg 99;").leastLeg(0), 1);
        due("99", on("hold 0 0 start;hold 0 99 top;guide leg 0;").leastLeg(0), 99);
        due("100", on("hold 0 0 start;hold 1 99 top;guide leg 99;").leastLeg(0), -1);
        due("law: 99 alone", on("hold 0 0 start;hold 1 99 top;guide leg 0;step : leg = 99;").leastLeg(0), 99);
        due("law: 100", on("hold 0 0 start;hold 1 99 top;guide leg 0;step : leg > 99;").leastLeg(0), -1);
        due("law: not asked", on("hold 0 0 start;hold 1 99 top;guide leg 5;step : 1 = 1;").leastLeg(0), 0);

        says(0, "the first DAY from this one on (200 at most) on which a GUIDE has a CLIMB, nothing else being done");
        due("this one", on("hold 0 0 start top ice 7;guide leg 1;day 7;").opens(0), 7);
        due("the next one", on("hold 0 0 start top ice 8;guide leg 1;day 7;").opens(0), 8);
        due("the 200th", on("hold 0 0 start top ice 206;guide leg 1;day 7;").opens(0), 206);
        due("the 201st", on("hold 0 0 start top ice 207;guide leg 1;day 7;").opens(0), -1);
        due("by the law, the 200th", on("hold 0 0 start;hold 0 0 top;guide leg 1;step : day = 199;").opens(0), 199);
        due("by the law, the 201st", on("hold 0 0 start;hold 0 0 top;guide leg 1;step : day = 200;").opens(0), -1);
        due("beyond DAY 999", on("hold 0 0 start;hold 0 0 top;guide leg 1;step : day = 999 + 199;day 999;").opens(0), 1198);
        due("a DAY that is over", on("hold 0 0 start;hold 0 0 top;guide leg 1;step : day = 6;day 7;").opens(0), -1);
    }

    static void setsAndTurns() {
        says(0, "by a set of HOLDS (neither START nor TOP, all THERE, USED or not)");
        FootholdWall x = on(FULL + "used 12 by 4;");
        due("a USED one", x.whose(1 << 12), 31);
        due("all twelve", x.whose(0x1ffe), 0);
        for (int set : new int[] {1, 1 << 13, 1 << 14, 1 << 15, MIN, -1, MAX, 3, 0x3ffe}) due("whose(" + set + ")", x.whose(set), -3);
        x.breaks(12);
        due("broken", x.whose(1 << 12), -3);
        x = on("hold 0 0 start;hold 0 1 ice 5;hold 0 2 top;guide leg 1;day 4;");
        due("its ice hasn't come", x.whose(2), -3);
        x.days(1);
        due("its ice has come", x.whose(2), 1);

        says(0, "all else OPEN ones aside but STARTS, TOPS that are THERE, make a CLIMB that uses just these");
        due("none at all: START to TOP", on(LADDER).whose(0), 4);
        due("none at all: in one", on("hold 0 0 start top;guide leg 0;").whose(0), 1);
        due("all of the longest", on(LONG).whose(0x1ffe), 1);
        due("one missing", on(LONG).whose(0x1ffc), 0);
        x = on("hold 0 0 start;hold 0 1;hold 0 2 top;guide leg 1;broken 2;");
        due("no TOP is THERE", x.whose(2), 0);
        x = on("hold 0 0 start;hold 0 1;hold 0 2 top;guide leg 1;broken 0;");
        due("no START is THERE", x.whose(2), 0);

        says(0, "whatever others do: a WAY's HOLDS that would be USED; of all CLIMBS that use as few the least set as bits");
        due("of twelve the first", on(FULL).saved(0), 2);
        due("all of the longest", on(LONG).saved(0), 0x1ffe);
        due("none", on(LADDER).saved(2), 0);
        x = on("hold 0 0 start;hold 0 1;hold 0 1;hold 0 2;hold 0 2;hold 0 3 top;guide leg 9;step : up = 1 and [up = 2 or up = 1];");
        due("the least of four", x.saved(0), 10);

        says(0, "IN TURN: GUIDES of a set one behind the other, each by its WAY, if it has one: how many get up");
        x = on(FULL);
        due("five", x.inTurn(31, 0), 5);
        due("nobody", x.inTurn(0, 0), 0);
        x = on("hold 0 0 start;hold 0 1;hold 0 2 top;" + "guide leg 1;".repeat(5));
        due("one of five", x.inTurn(31, 0), 1);
        x.goes(0);
        due("none of five", x.inTurn(31, 0), 0);
        for (int k = 0; k < 5; k++) due("the first order " + k, x.inTurn(31, 10 + k), k);

        says(0, "the order by which most do, the first by numbers");
        x = on("hold 5 0 start;hold 5 2;hold 6 2;hold 5 4 top;guide leg 3;guide leg 2;guide leg 0;");
        due("how many", x.inTurn(3, 0), 2);
        due("the other way round", x.inTurn(3, 10) * 10 + x.inTurn(3, 11), 10);
        due("with one who never gets up: how many", x.inTurn(7, 0), 2);
        due("who stands as early as can be", x.inTurn(7, 10) * 100 + x.inTurn(7, 11) * 10 + x.inTurn(7, 12), 102);
        due("nothing was done", x.count(4) + x.count(6), 0);

        says(0, "TRAYS 0 to 3 are MISSING at first, or have 0 to 40 numbers of 8 bits (sort 0), 16 (1), 32 (2), 64 (3).");
        x = new FootholdWall();
        for (int t = 0; t < 4; t++) due("MISSING", x.write(t, 0, 1), -6);
        for (int t = 0; t < 4; t++) {
            due("0 numbers", x.numbers(t, t, 0), 0);
            due("none of them", x.write(t, 0, 1), -7);
            due("40 numbers", x.numbers(t, t, 40), 0);
            due("the last of them", x.write(t, 39, 1), 1);
        }

        says(0, "nothing can be UNDONE behind (none at first)");
        x = on(LADDER);
        due("none at first", x.restore(0), -5);
        due("none at first", x.restore(1), -5);
        x.days(1);
        x.image(1);
        x.days(1);
        due("the other one still", x.restore(0), -5);
        due("restore", x.restore(1), 0);
        due("nothing can be UNDONE", x.count(6), 0);
        due("undo", x.undo(1), -3);
        x.days(1);
        due("then again", x.undo(1), 0);
        due("to the image", x.count(2), 1);
    }

    static void seasons() {
        says(0, "(x, an int; a DRAW: x becomes 1103515245 x + 12345, it is x >>> 16)");
        for (int seed : new int[] {0, 1, -1, MIN, MAX, MIN + 1, 0x10000, -0x10000, 1 << 30}) {
            FootholdWall x = on(FULL);
            FootholdWall y = on(FULL);
            long drawn = seed & 0xffffffffL;
            int up = 0;
            for (int i = 0; i < 40; i++) {
                drawn = next(drawn);
                int kind = (int) (drawn >> 16) % 4;
                if (kind == 0) y.days(1);
                if (kind == 3) y.rain(1);
                if (kind == 1 || kind == 2) {
                    drawn = next(drawn);
                    if (y.goes((int) (drawn >> 16) % 5) >= 0) up++;
                }
            }
            due("season(" + seed + ", 40)", x.season(seed, 40), up);
            due("DAY", x.count(2), y.count(2));
            for (int g = 0; g < 5; g++) due("USED by " + g, x.guide(g, 2), y.guide(g, 2));
            for (int h = 0; h < 14; h++) due("USED on " + h, x.hold(h, 7), y.hold(h, 7));
            due("as a whole", x.undo(1), 0);
            due("as it was", x.count(2) + x.count(4), 0);
        }

        says(0, "DRAW modulo 4: 0 a DAY; 1 and 2 GUIDE DRAW modulo GUIDES goes by its WAY, if it has one; 3 RAIN of 1.");
        for (int guides = 1; guides <= 5; guides++) {
            boolean[] seen = new boolean[20];
            for (int seed = -400; seed < 400; seed++) {
                int kind = draw(seed) % 4, g = draw(1103515245 * seed + 12345) % guides;
                if (seen[kind * 5 + g]) continue;
                seen[kind * 5 + g] = true;
                boolean goes = kind == 1 || kind == 2;
                FootholdWall y = on(FULL.replace("guide leg 1;".repeat(5), "guide leg 1;".repeat(guides)) + "used 12 by 0;used 11 by 0;");
                due(guides + " GUIDES, draws " + kind + ", " + g, y.season(seed, 1), goes ? 1 : 0);
                due("DAY", y.count(2), kind == 0 ? 1 : 0);
                due("USED", y.count(4), kind == 3 ? 1 : goes ? 3 : 2);
                due("by whom", y.hold(1, 6), goes ? g : -1);
                due("come back", y.hold(11, 5), kind == 3 ? 1 : 0);
            }
            for (int i = 0; i < guides; i++) due("drawn " + guides + " " + i, seen[i] && seen[5 + i] && seen[10 + i] && seen[15 + i] ? 1 : 0, 1);
        }

        says(0, "so many times (1 to 40)");
        FootholdWall x = on(LADDER);
        bounds("season", 1, 40, -3, n -> x.season(0, n));
    }

    /** Without a wrap-around: an int's 32 bits in a long. */
    static long next(long x) { return (1103515245L * x + 12345) % (1L << 32); }

    // ---- the promises

    static void promises1To4() {
        says(1, "No HOLDS, no GUIDES.");
        FootholdWall x = new FootholdWall();
        for (int what = 0; what < 10; what++) due("count(" + what + ")", x.count(what), 0);
        for (int g = 0; g < 5; g++) due("guide(" + g + ", 0)", x.guide(g, 0), -2);
        for (int h = 0; h < 14; h++) due("hold(" + h + ", 0)", x.hold(h, 0), -8);
        due("able()", x.able(), 0);
        due("whose(0)", x.whose(0), 0);
        due("whose(1)", x.whose(1), -3);
        due("inTurn(0, 0)", x.inTurn(0, 0), 0);
        due("inTurn(0, 10)", x.inTurn(0, 10), -1);
        due("inTurn(1, 0)", x.inTurn(1, 0), -3);
        due("season(1, 1)", x.season(1, 1), -5);
        due("rain(1)", x.rain(1), 0);
        due("newYear()", x.newYear(), 0);
        due("days(99)", x.days(99), 99);
        due("undo(2)", x.undo(2), 0);
        due("image(0)", x.image(0), 0);
        due("restore(0)", x.restore(0), 0);
        due("wall(0)", x.wall(0), 0);

        says(1, "An object is used for at most 512 calls after it has been made");
        FootholdWall old = on("hold 0 0 start top;guide leg 1;day 999;");
        for (int i = 1; i <= 500; i++) due("days(99) " + i, old.days(99), 999 + 99 * i);
        due("opens", old.opens(0), 999 + 99 * 500);
        due("undo(10)", old.undo(10), 0);
        old = new FootholdWall();
        for (int i = 1; i <= 500; i++) due("newYear() " + i, old.newYear(), 0);
        due("YEARS", old.count(3), 500);

        says(2, "-5: it would have more than 900.");
        FootholdWall y = new FootholdWall();
        for (int i = 1; i <= 45; i++) due("feed " + i, y.feed(0x20202020, 0x20202020, 0x20202020, 0x20202020, 0x2020203b), 20 * i);
        for (int i = 0; i < 3; i++) due("feed 46", y.feed(0, 0, 0, 0, 0), -5);
        due("bytes", y.count(7), 900);
        due("what there was stays", y.wall(900), -32);
        due("the first sign", y.fault(1), 19);
        due("from 0 on again", y.feed(0, 0, 0, 0, 0), 20);

        says(2, "Twenty bytes come behind those on THE TAPE, the highest of each int first");
        y.wall(0);
        y.feed(0x64617980, 0, 0, 0, 0);
        due("a byte above 127", y.wall(4), -31);
        due("its place", y.fault(1), 3);
        y.feed(0xff617920, 0, 0, 0, 0);
        due("ahead of others", y.wall(4), -31);
        due("its place", y.fault(1), 0);
        y.feed(0x20202020, 0x20202020, 0x20202020, 0x20202064, 0x61792036);
        y.feed(0x3b202020, MIN, MAX, -1, 0);
        due("across two calls", y.wall(24), 1);
        due("DAY", y.count(2), 6);

        says(3, "-3: n is below 0 or above what there is (THE TAPE stays)");
        FootholdWall z = on(LADDER);
        due("nothing on it", z.wall(1), -3);
        feed(z, "day 5;");
        for (int n : new int[] {MIN, -1, 21, 900, 901, MAX}) due("wall(" + n + ")", z.wall(n), -3);
        due("THE TAPE stays", z.count(7), 20);
        due("THE WALL stays", z.count(0), 4);
        due("all that there is", z.wall(20), 1);
        due("then it is empty", z.count(7), 0);
        due("and refused", z.wall(1), -3);

        says(3, "The first n bytes of THE TAPE (which is empty then) are THE WALL, nothing can be UNDONE: how many LINES");
        feed(z, LADDER);
        due("none of them", z.wall(0), 0);
        due("THE TAPE", z.count(7), 0);
        due("HOLDS", z.count(0), 0);
        feed(z, "day 1;day 2;day 3;");
        z.days(9);
        z.newYear();
        due("the first of them", z.wall(6), 1);
        due("DAY", z.count(2), 1);
        due("YEARS", z.count(3), 0);
        due("LINES", z.count(8), 1);
        due("nothing can be UNDONE", z.undo(1), -3);

        anew();

        says(3, "(all stays with a FAULT)");
        String[] faulty = {"?", "hold", "hold 100 1;", "hold 1 1;".repeat(15)};
        for (int kind = 1; kind <= 4; kind++) {
            z = on(LADDER + "used 1 by 0;broken 2;day 9;");
            z.image(0);
            z.newYear();
            z.days(4);
            tray(z, 2, 0, 3);
            due("wall", tell(z, faulty[kind - 1]), -30 - kind);
            int[] counts = {4, 3, 4, 1, 0, 3, 2, 0, 10, 1};
            for (int what = 0; what < 10; what++) due("count(" + what + ")", z.count(what), counts[what]);
            due("the law", z.steps(0, 0, 1), 1);
            due("TRAYS", z.judge(0, 0), -1);
            due("undo(2)", z.undo(2), 0);
            due("undone", z.hold(1, 6) + z.count(2), 9);
            due("restore(0)", z.restore(0), 0);
        }
        z = on("hold 0 0;hold 0 5;guide leg 1;step : up = 5;");
        due("a FAULT in a law", tell(z, "step : up = 4 and;"), -32);
        due("the law stays", z.steps(0, 0, 1) * 10 + z.steps(0, 1, 0), 10);

        says(4, "Of the latest wall() that was read, what 0: its FAULT (0), 1: its place (NONE). NONE for others.");
        FootholdWall w = new FootholdWall();
        due("none was read: fault(0)", w.fault(0), 0);
        due("none was read: fault(1)", w.fault(1), -1);
        for (int kind = 1; kind <= 4; kind++) {
            tell(w, faulty[kind - 1]);
            due("fault(0)", w.fault(0), kind);
            due("wall(1)", w.wall(1), -3);
            due("a refused one wasn't read", w.fault(0), kind);
            for (int what : new int[] {MIN, -1, 2, MAX}) due("fault(" + what + ")", w.fault(what), -1);
        }
        due("place of the 15th hold", w.fault(1), 126);
        tell(w, ";");
        due("place 0", w.fault(1), 0);
        tell(w, " ".repeat(897) + "day");
        due("place 900", w.fault(1), 900);
        w.wall(0);
        due("a right one: fault(0)", w.fault(0), 0);
        due("a right one: fault(1)", w.fault(1), -1);
    }

    /** Nothing of a wall stays in the next one, nor of a text with a FAULT. */
    static void anew() {
        String much = "hold 1 1 start top wide ice 9;".repeat(6) + "hold 1 1 ice 9;".repeat(8) + "guide leg 9 weight 9;".repeat(5) + "used 9 by 4;broken 3;broken 8;day 9;step : wide = 1;";
        for (String end : new String[] {"", "hold", "?", "hold 1 1;", "used 9 by 5;"}) {
            FootholdWall x = new FootholdWall();
            tell(x, much + end);
            due("another wall", tell(x, "hold 0 0;".repeat(14) + "guide leg 0;".repeat(5)), 19);
            for (int h = 0; h < 14; h++) {
                int[] plain = {0, 0, 0, 0, 1, 1, -1, -1, 0, 0};
                for (int what = 0; what < 10; what++) due("hold(" + h + ", " + what + ")", x.hold(h, what), plain[what]);
            }
            for (int g = 0; g < 5; g++) for (int what = 0; what < 3; what++) due("guide(" + g + ", " + what + ")", x.guide(g, what), 0);
            int[] counts = {14, 5, 0, 0, 0, 14, 0, 0, 19, 0};
            for (int what = 0; what < 10; what++) due("count(" + what + ")", x.count(what), counts[what]);
            due("no law", x.steps(0, 0, 1), 1);
        }
        FootholdWall x = new FootholdWall();
        for (int i = 0; i < 40; i++) {
            tell(x, "hold 0 0;hold 0 1;guide leg 1;step : " + "1 + ".repeat(i) + "1 = " + (i + 1) + " and up = 1;");
            due("law " + i, x.steps(0, 0, 1) * 10 + x.steps(0, 1, 0), 10);
        }
        tell(x, "hold 0 0 start wide;hold 0 1 wide;hold 0 2 wide top;guide leg 1;step : wide = 1;");
        due("all wide", x.reach(0), 7);
        tell(x, "hold 0 0 start;hold 0 1;hold 0 2 top;guide leg 1;step : wide = 1;");
        due("none is wide", x.reach(0), 1);
        due("not even the first", x.steps(0, 1, 0), 0);
        for (int i = 0; i < 3; i++) {
            tell(x, "hold 0 0 start;hold 0 1;hold 0 5;guide leg 1;");
            due("one wall", x.reach(0), 3);
            tell(x, "hold 0 0 start;hold 0 5;hold 0 1;guide leg 1;");
            due("another one", x.reach(0), 5);
        }
        tell(x, LONG);
        due("climbs of the longest", x.climbs(0, 7) + x.ways(0), 1);
        due("saved of the longest", x.saved(0), 0x1ffe);
        tell(x, "hold 0 9 top;hold 0 8;hold 0 0 start;hold 0 1 top;guide leg 1;");
        due("climbs of another", x.climbs(0, 7), 1);
        due("saved of another", x.saved(0), 0);
        due("idle of another", x.idle(0), 3);
    }

    static void promises5To8() {
        says(5, "-8: no such HOLD, what.");
        FootholdWall x = on(FULL);
        bounds("hold(h, 0)", 0, 13, -8, h -> x.hold(h, 0));
        bounds("hold(0, what)", 0, 9, -8, what -> x.hold(0, what));
        FootholdWall one = on("hold 7 7;");
        bounds("hold(h, 0) of one", 0, 0, -8, h -> one.hold(h, 0));

        says(5, "6: by whom it is USED (NONE), 7: on which DAY (NONE)");
        due("6: not USED", x.hold(1, 6), -1);
        due("7: not USED", x.hold(1, 7), -1);
        x.goes(0);
        due("6: GUIDE 0", x.hold(1, 6), 0);
        due("7: DAY 0", x.hold(1, 7), 0);
        x.days(99);
        x.goes(4);
        due("6: GUIDE 4", x.hold(2, 6), 4);
        due("7: DAY 99", x.hold(2, 7), 99);
        x.rain(1);
        due("6: come back", x.hold(1, 6), -1);
        due("7: come back", x.hold(1, 7), -1);

        says(5, "2: 1 if START, 3: 1 if TOP, 4: 1 if it is THERE, 5: 1 if it is OPEN");
        FootholdWall ends = on("hold 1 1 start;hold 1 1 top;hold 1 1 start top;hold 1 1;guide leg 1;used 3 by 0;broken 1;");
        int[][] flags = {{1, 0, 1, 1}, {0, 1, 0, 0}, {1, 1, 1, 1}, {0, 0, 1, 0}};
        for (int h = 0; h < 4; h++) for (int what = 2; what < 6; what++) due("hold(" + h + ", " + what + ")", ends.hold(h, what), flags[h][what - 2]);

        says(5, "9: ice's DAY (0 without); else 0");
        FootholdWall plain = on("hold 0 0;");
        int[] due = {0, 0, 0, 0, 1, 1, -1, -1, 0, 0};
        for (int what = 0; what < 10; what++) due("hold(0, " + what + ")", plain.hold(0, what), due[what]);
        plain.breaks(0);
        int[] broken = {0, 0, 0, 0, 0, 0, -1, -1, 1, 0};
        for (int what = 0; what < 10; what++) due("broken: hold(0, " + what + ")", plain.hold(0, what), broken[what]);

        says(6, "Of a GUIDE, what 0: LEG, 1: WEIGHT, 2: HOLDS USED by it, as bits. -2.");
        FootholdWall y = on(FULL);
        bounds("guide(g, 0)", 0, 4, -2, g -> y.guide(g, 0));
        bounds("guide(0, what)", 0, 2, -2, what -> y.guide(0, what));
        due("none USED", y.guide(4, 2), 0);
        for (int i = 0; i < 12; i++) y.goes(4);
        due("all twelve", y.guide(4, 2), 0x1ffe);
        due("of another one", y.guide(3, 2), 0);

        says(7, "-2: one of these, both one.");
        FootholdWall z = on(FULL);
        bounds("steps(g, 0, 1)", 0, 4, -2, g -> z.steps(g, 0, 1));
        bounds("steps(0, from, 1)", 0, 13, -2, from -> z.steps(0, from, 1));
        bounds("steps(0, 1, to)", 0, 13, -2, to -> z.steps(0, 1, to));
        for (int h = 0; h < 14; h++) due("both one", z.steps(0, h, h), -2);

        says(7, "Whether a GUIDE MAY STEP from a HOLD to another one today (OPEN or not): 1, 0.");
        due("1", z.steps(0, 0, 12), 1);
        due("0", z.steps(0, 12, 0), 0);
        z.goes(0);
        z.breaks(0);
        due("USED, broken", z.steps(0, 0, 1), 1);
        due("from a TOP", on("hold 0 0 top;hold 0 1;guide leg 1;").steps(0, 0, 1), 1);

        says(8, "OPEN HOLDS to which a GUIDE comes from OPEN STARTS (these, too; a TOP is gone on from no more), as bits. -2.");
        FootholdWall w = on(FULL);
        bounds("reach", 0, 4, -2, g -> w.reach(g));
        due("all", w.reach(0), 0x3fff);
        w.breaks(13);
        due("all but one", w.reach(0), 0x1fff);
        w.breaks(0);
        due("no START", w.reach(0), 0);
        due("no HOLDS", on("guide leg 1;").reach(0), 0);
        due("a START alone", on("hold 0 0 start;hold 0 9;guide leg 1;").reach(0), 1);
        due("a TOP that is START", on("hold 0 0 start top;hold 0 1;guide leg 1;").reach(0), 1);
        due("behind a TOP", on("hold 0 0 start;hold 0 1 top;hold 0 2;guide leg 1;").reach(0), 3);
        due("the longest", on(LONG).reach(0), 0x3fff);
    }

    static void promises9To12() {
        says(9, "what 0: the first place that can't be (NONE), 1: why (0), 2: how many would be USED by it (0 if it can't be). -2: the TRAY, what; -6.");
        FootholdWall x = on(LADDER);
        due("MISSING", x.judge(0, 0), -6);
        for (int t = 0; t < 4; t++) x.numbers(t, 0, 0);
        bounds("judge(tray, 0)", 0, 3, -2, t -> x.judge(t, 0));
        bounds("judge(0, what)", 0, 2, -2, what -> x.judge(0, what));
        tray(x, 0, 0, 1, 2, 3);
        judged("a climb", x, -1, 0, 2);
        tray(x, 0, 0, 1, 2);
        judged("none", x, 4, 4, 0);
        FootholdWall bare = new FootholdWall();
        due("what ahead of MISSING", bare.judge(0, 3), -2);
        due("the TRAY ahead of MISSING", bare.judge(4, 0), -2);

        says(9, "A TOLD CLIMB, judged as if done");
        tray(x, 0, 0, 1, 2, 3);
        for (int i = 0; i < 3; i++) due("judged again", x.judge(0, 2), 2);
        due("nothing is done", x.count(4) + x.count(6), 0);

        says(10, "It is done: how many are USED by it. -2; -6; -5: it can't be.");
        due("2", x.climb(0), 2);
        due("it can't be again", x.climb(0), -5);
        due("0", climbOf(on(LADDER), 2, 0, 3), 0);
        due("1", climbOf(on(LADDER), 2, 0, 1, 3), 1);
        FootholdWall longest = on(LONG);
        due("12", climbOf(longest, 0, 0, 1, 2, 3, 4, 5, 6, 7, 8, 9, 10, 11, 12, 13), 12);
        FootholdWall five = on(FULL);
        due("by the last GUIDE", climbOf(five, 4, 0, 12, 13), 1);
        due("USED by it", five.hold(12, 6), 4);
        FootholdWall y = on(LADDER);
        due("MISSING", y.climb(3), -6);
        for (int t = 0; t < 4; t++) y.numbers(t, 0, 0);
        bounds("climb", 0, 3, -2, t -> y.climb(t));
        due("nothing in it", y.climb(0), -5);
        due("nothing was done", y.count(6), 0);

        says(11, "A GUIDE goes by its WAY: how many are USED by it. -2; -5: it has none.");
        FootholdWall z = on(FULL);
        bounds("goes", 0, 4, -2, g -> z.goes(g));
        for (int i = 0; i < 10; i++) due("goes", z.goes(i % 5), 1);
        due("no WAY more", z.goes(0), -5);
        due("nothing was done", z.count(4), 12);
        due("0", on(LADDER).goes(2), 0);
        due("12", on(LONG).goes(0), 12);

        says(12, "n DAYS (1 to 99) go by: the DAY then. -3.");
        FootholdWall w = on("day 999;");
        for (int n : new int[] {MIN, -1, 0, 100, MAX}) due("days(" + n + ")", w.days(n), -3);
        due("DAY stays", w.count(2), 999);
        due("days(1)", w.days(1), 1000);
        due("days(99)", w.days(99), 1099);
        int day = 1099;
        for (int i = 0; i < 400; i++) {
            day += 99;
            due("days(99)", w.days(99), day);
        }
    }

    static int climbOf(FootholdWall x, long... numbers) {
        tray(x, numbers);
        return x.climb(0);
    }

    static void promises13To17() {
        says(13, "RAIN of n (1 to 14): how many came back. -3.");
        FootholdWall last = on("hold 0 0;guide leg 1;used 0 by 0;");
        due("the only one", last.rain(14), 1);
        due("it can be UNDONE", last.undo(1), 0);
        due("USED again", last.hold(0, 6), 0);
        FootholdWall x = on(LONG);
        bounds("rain", 1, 14, -3, n -> x.rain(n));
        x.goes(0);
        due("rain(15)", x.rain(15), -3);
        due("rain(0)", x.rain(0), -3);
        due("USED stay", x.count(4), 12);
        due("rain(1)", x.rain(1), 1);
        due("rain(14)", x.rain(14), 11);
        due("rain(14) of none", x.rain(14), 0);

        says(14, "A HOLD breaks (it is USED no more): 1 if it was USED, else 0. -2; -5: it is broken.");
        FootholdWall y = on(FULL + "used 1 by 0;");
        bounds("breaks", 0, 13, -2, h -> y.breaks(h));
        due("broken", y.breaks(0), -5);
        due("USED", y.breaks(1), 1);
        due("USED no more", y.count(4), 0);
        due("not USED", y.breaks(2), 0);
        due("broken", y.breaks(1), -5);
        for (int h = 3; h < 13; h++) due("breaks(" + h + ")", y.breaks(h), 0);
        due("all", y.count(9), 14);
        due("none is OPEN", y.count(5), 0);
        due("its ice hasn't come", on("hold 0 0 ice 5;").breaks(0), 0);

        says(15, "A NEW YEAR: how many had been USED.");
        FootholdWall z = on(LONG);
        due("none", z.newYear(), 0);
        z.goes(0);
        due("twelve", z.newYear(), 12);
        due("none again", z.newYear(), 0);
        due("YEARS", z.count(3), 3);
        z.breaks(5);
        z.newYear();
        due("broken ones stay", z.count(9), 1);

        says(16, "n calls (1 to 10) are UNDONE: how many still can be. -3: n, more than can be.");
        FootholdWall w = on(LADDER);
        for (int n : new int[] {MIN, -1, 0, 1, 10, 11, MAX}) due("of none undo(" + n + ")", w.undo(n), -3);
        w.days(1);
        due("undo(2) of 1", w.undo(2), -3);
        due("undo(0) of 1", w.undo(0), -3);
        due("DAY", w.count(2), 1);
        for (int i = 0; i < 14; i++) w.days(1);
        for (int n : new int[] {MIN, -1, 0, 11, MAX}) due("of 10 undo(" + n + ")", w.undo(n), -3);
        due("undo(10)", w.undo(10), 0);
        due("DAY", w.count(2), 5);
        for (int i = 0; i < 10; i++) w.days(1);
        due("undo(1)", w.undo(1), 9);
        due("undo(10) of 9", w.undo(10), -3);
        due("undo(9)", w.undo(9), 0);
        due("DAY", w.count(2), 5);

        says(17, "-3: how many times; -5: no GUIDES.");
        FootholdWall v = new FootholdWall();
        due("no GUIDES", v.season(1, 1), -5);
        due("-3 first", v.season(1, 41), -3);
        due("-3 first", v.season(1, 0), -3);
        FootholdWall u = on("guide leg 1;");
        bounds("season", 1, 40, -3, times -> u.season(5, times));
        due("HOLDS, no GUIDES", on("hold 0 0 start top;").season(1, 40), -5);
    }

    static void promises18To22() {
        says(18, "what 0: how many HOLDS, 10 + k: the k-th of them (10 to 23; NONE: not so many). NONE: it has none; -2: also what.");
        FootholdWall x = on(LONG + "guide leg 0;");
        due("how many", x.way(0, 0), 14);
        for (int k = 0; k < 14; k++) due("the k-th " + k, x.way(0, 10 + k), k);
        for (int what : new int[] {MIN, -1, 1, 9, 24, MAX}) {
            due("way(0, " + what + ")", x.way(0, what), -2);
            due("-2 ahead of NONE", x.way(1, what), -2);
        }
        bounds("way(g, 0)", 0, 1, -2, g -> x.way(g, 0));
        for (int k = 0; k < 14; k++) due("it has none " + k, x.way(1, 10 + k), -1);
        due("it has none", x.way(1, 0), -1);
        FootholdWall one = on("hold 0 0 start top;guide leg 1;");
        due("one", one.way(0, 10), 0);
        due("not so many", one.way(0, 11), -1);
        due("not so many", one.way(0, 23), -1);

        says(19, "How many CLIMBS have as few HOLDS as a WAY. -2.");
        FootholdWall full = on(FULL);
        bounds("ways", 0, 4, -2, g -> full.ways(g));
        due("twelve", full.ways(0), 12);
        due("one", on(LONG).ways(0), 1);
        due("none", x.ways(1), 0);
        due("many", on(threes()).ways(0), 81);
        due("from two STARTS", on("hold 0 0 start;hold 9 0 start;hold 0 1 top;hold 9 1 top;guide leg 1;").ways(0), 2);
        due("by one HOLD each", on("hold 0 0 start top;hold 0 0 start top;hold 0 0 start;hold 0 0 top;guide leg 0;").ways(0), 2);

        says(20, "How many CLIMBS there are with n HOLDS (1 to 7) or fewer. -2; -3.");
        bounds("climbs(g, 7)", 0, 4, -2, g -> full.climbs(g, 7));
        bounds("climbs(0, n)", 1, 7, -3, n -> full.climbs(0, n));
        due("-2 first", full.climbs(5, 8), -2);
        for (int n = 1; n <= 7; n++) due("climbs(0, " + n + ")", full.climbs(0, n), n < 3 ? 0 : 12);
        for (int n = 1; n <= 7; n++) due("too long " + n, x.climbs(0, n), 0);
        FootholdWall seven = on("hold 0 0 start;hold 0 1;hold 0 2;hold 0 3;hold 0 4;hold 0 5;hold 0 6 top;guide leg 1;");
        for (int n = 1; n <= 7; n++) due("seven " + n, seven.climbs(0, n), n / 7);
        FootholdWall eight = on("hold 0 0 start;hold 0 1;hold 0 2;hold 0 3;hold 0 4;hold 0 5;hold 0 6;hold 0 7 top;guide leg 1;");
        due("eight", eight.climbs(0, 7), 0);
        due("one by itself", one.climbs(0, 1), 1);
        due("the most", on("hold 0 0 start;".repeat(7) + "hold 0 0 top;".repeat(7) + "guide leg 0;").climbs(0, 7),
            7 * (7 + 7 * 6 + 7 * 6 * 5 + 7 * 6 * 5 * 4 + 7 * 6 * 5 * 4 * 3 + 7 * 6 * 5 * 4 * 3 * 2));

        says(21, "PARTIES. -2.");
        bounds("parties", 0, 4, -2, g -> full.parties(g));
        due("twelve", full.parties(0), 12);
        due("none", x.parties(1), 0);
        due("endless", on(LADDER).parties(2), 99);

        says(22, "SHUT, what 0: how many, 1: which, as bits. NONE: not by any; -2: also what.");
        bounds("shut(g, 0)", 0, 4, -2, g -> full.shut(g, 0));
        bounds("shut(0, what)", 0, 1, -2, what -> full.shut(0, what));
        due("all twelve", full.shut(0, 0), 12);
        due("as bits", full.shut(0, 1), 0x1ffe);
        FootholdWall ladder = on(LADDER);
        due("not by any", ladder.shut(2, 0), -1);
        due("not by any", ladder.shut(2, 1), -1);
        due("-2 ahead of NONE", ladder.shut(2, 2), -2);
        due("it is shut", x.shut(1, 0), 0);
        due("by none", x.shut(1, 1), 0);
    }

    /** Four rows of three between a start and a top. */
    static String threes() {
        StringBuilder b = new StringBuilder("hold 0 0 start;hold 0 5 top;");
        for (int y = 1; y < 5; y++) b.append(("hold 0 " + y + ";").repeat(3));
        return b.append("guide leg 1;step : up = 1;").toString();
    }

    static void promises23To28() {
        says(23, "NEEDED, as bits. -2.");
        FootholdWall full = on(FULL);
        FootholdWall tall = on(LONG + "guide leg 0;");
        bounds("needed", 0, 4, -2, g -> full.needed(g));
        due("none of twelve", full.needed(0), 0);
        due("all twelve", tall.needed(0), 0x1ffe);
        due("no CLIMB", tall.needed(1), 0);
        for (int i = 0; i < 11; i++) full.goes(0);
        due("the last one", full.needed(0), 1 << 12);
        full.goes(0);
        due("no CLIMB more", full.needed(0), 0);

        says(24, "OPEN HOLDS that are in no CLIMB of a GUIDE, as bits. -2.");
        FootholdWall all = on(FULL);
        bounds("idle", 0, 4, -2, g -> all.idle(g));
        due("none", all.idle(0), 0);
        due("all", tall.idle(1), 0x3fff);
        due("none of the longest", tall.idle(0), 0);
        tall.breaks(6);
        due("those that are left", tall.idle(0), 0x3fff & ~(1 << 6));
        due("no HOLDS", on("guide leg 1;").idle(0), 0);
        due("a START no climb needs", on("hold 0 0 start;hold 0 1 start;hold 0 2 top;guide leg 1;").idle(0), 0);
        due("behind a TOP", on("hold 0 0 start;hold 0 1 top;hold 0 2;hold 0 3 top;guide leg 1;").idle(0), 12);

        says(25, "GUIDES who have a CLIMB, as bits.");
        due("all five", all.able(), 31);
        all.breaks(13);
        due("none", all.able(), 0);
        due("two of three", on("hold 0 0 start;hold 0 2 top;guide leg 1;guide leg 2;guide leg 3;").able(), 6);
        due("no GUIDES", on("hold 0 0 start top;").able(), 0);

        says(26, "GUIDES by whom a HOLD is NEEDED, as bits. -2.");
        FootholdWall five = on("hold 0 0 start;hold 0 1;hold 0 2 top;" + "guide leg 1;".repeat(5));
        bounds("needers", 0, 2, -2, h -> five.needers(h));
        due("all five", five.needers(1), 31);
        due("a START", five.needers(0), 0);
        due("a TOP", five.needers(2), 0);
        five.goes(0);
        due("USED: no CLIMB", five.needers(1), 0);
        bounds("needers of 14", 0, 13, -2, h -> on(FULL).needers(h));
        due("no HOLDS", on("guide leg 1;").needers(0), -2);

        says(27, "The greatest y of HOLDS to which a GUIDE comes (as reach() tells). NONE: to none; -2.");
        FootholdWall high = on("hold 0 0 start;hold 0 99;hold 1 98;guide leg 98;guide leg 99;guide leg 0;");
        bounds("highest", 0, 2, -2, g -> high.highest(g));
        due("98 is too short", high.highest(0), 0);
        due("99", high.highest(1), 99);
        due("the START, y 0", high.highest(2), 0);
        high.breaks(0);
        due("to none", high.highest(1), -1);
        due("no HOLDS", on("guide leg 1;").highest(0), -1);

        says(28, "Whether two GUIDES (both one: two climbs of it) have CLIMBS that use no HOLD both: 1, 0. -2.");
        FootholdWall two = on(LADDER);
        bounds("together(g, 0)", 0, 2, -2, g -> two.together(g, 0));
        bounds("together(0, other)", 0, 2, -2, other -> two.together(0, other));
        due("both one, one climb", two.together(0, 0), 0);
        due("both one, two climbs", two.together(1, 1), 1);
        due("both one, a climb that uses none", two.together(2, 2), 1);
        due("one uses all", two.together(0, 1), 0);
        due("the other uses none", two.together(0, 2), 1);
        two.breaks(1);
        due("one has no CLIMB", two.together(0, 2), 0);
        due("the other has no CLIMB", two.together(2, 0), 0);
        FootholdWall last = on(FULL);
        for (int i = 0; i < 10; i++) last.goes(0);
        due("two are left", last.together(0, 4), 1);
        last.goes(0);
        due("one is left", last.together(0, 4), 0);
    }

    static void promises29To31() {
        says(29, "LEAST LEG. NONE: with none; -2.");
        FootholdWall x = on(FULL);
        bounds("leastLeg", 0, 4, -2, g -> x.leastLeg(g));
        due("with any", x.leastLeg(0), 0);
        x.breaks(0);
        due("with none", x.leastLeg(0), -1);
        due("the longest", on(LONG).leastLeg(0), 1);

        says(30, "OPENS: the DAY. NONE: on none of these; -2.");
        FootholdWall y = on(FULL);
        bounds("opens", 0, 4, -2, g -> y.opens(g));
        due("today", y.opens(0), 0);
        y.breaks(0);
        due("on none", y.opens(0), -1);
        FootholdWall z = on("hold 0 0 start top ice 999;guide leg 1;day 799;");
        due("one DAY too far", z.opens(0), -1);
        z.days(1);
        due("the last of these", z.opens(0), 999);
        due("DAY stays", z.count(2), 800);
        z.days(99);
        z.days(99);
        z.days(1);
        due("today", z.opens(0), 999);
        z.days(1);
        due("still open", z.opens(0), 1000);

        says(31, "the first (neither START nor TOP, OPEN). NONE: none lowers it; -2.");
        FootholdWall w = on(FULL);
        bounds("dearest", 0, 4, -2, g -> w.dearest(g));
        due("of twelve the first", w.dearest(0), 1);
        w.goes(0);
        due("OPEN ones alone", w.dearest(0), 2);
        for (int i = 0; i < 10; i++) w.goes(0);
        due("the last one", w.dearest(0), 12);
        w.goes(0);
        due("PARTIES 0", w.dearest(0), -1);
        due("PARTIES 99", on(LADDER).dearest(2), -1);
        due("of the longest", on(LONG).dearest(0), 1);
        due("not one beside", on("hold 0 0 start;hold 9 9;hold 0 1;hold 0 2 top;guide leg 1;").dearest(0), 2);
    }

    static void promises32To36() {
        says(32, "WHOSE, as bits. -3: a set with others than such HOLDS.");
        FootholdWall x = on(FULL);
        due("all five", x.whose(2), 31);
        due("the last HOLD", x.whose(1 << 12), 31);
        due("two of them", x.whose(6), 0);
        due("none of them", x.whose(0), 0);
        for (int h : new int[] {0, 13, 14, 30, 31}) due("bit " + h, x.whose(1 << h), -3);
        due("one more bit", x.whose(3), -3);
        due("no GUIDES", on("hold 0 0 start;hold 0 1;hold 0 2 top;").whose(2), 0);

        says(33, "10 + k: the k-th (10 to 23; NONE: not so many). NONE: it is none of WHOSE; -2: also what; -3 as whose().");
        FootholdWall tall = on(LONG);
        due("how many", tall.order(0, 0x1ffe, 0), 14);
        for (int k = 0; k < 14; k++) due("the k-th " + k, tall.order(0, 0x1ffe, 10 + k), k);
        for (int what : new int[] {MIN, -1, 1, 9, 24, MAX}) due("order(0, 0x1ffe, " + what + ")", tall.order(0, 0x1ffe, what), -2);
        for (int what = 10; what < 24; what++) due("none of WHOSE", tall.order(0, 0x1ffc, what), -1);
        due("none of WHOSE", tall.order(0, 0x1ffc, 0), -1);
        due("-2 ahead of NONE", tall.order(0, 0x1ffc, 1), -2);
        due("-2 ahead of -3: what", tall.order(0, 1, 24), -2);
        due("-2 ahead of -3: the GUIDE", tall.order(1, 1, 0), -2);
        for (int set : new int[] {1, 1 << 13, 1 << 14, MIN, -1, MAX}) due("order(0, " + set + ", 0)", tall.order(0, set, 0), -3);
        bounds("order(g, 2, 0)", 0, 4, -2, g -> x.order(g, 2, 0));
        for (int k = 3; k < 14; k++) due("not so many", x.order(0, 2, 10 + k), -1);
        FootholdWall one = on("hold 0 0 start top;hold 0 1 start;hold 0 2 top;guide leg 1;");
        due("by itself: how many", one.order(0, 0, 0), 1);
        due("by itself: which", one.order(0, 0, 10), 0);
        due("by itself: no second", one.order(0, 0, 11), -1);
        tall.breaks(4);
        due("not THERE", tall.order(0, 1 << 4, 0), -3);

        says(34, "SAVED for a GUIDE, as bits. NONE: it has no CLIMB; -2.");
        FootholdWall full = on(FULL);
        bounds("saved", 0, 4, -2, g -> full.saved(g));
        due("the first", full.saved(0), 2);
        due("none needs to be", on(LADDER).saved(2), 0);
        due("no CLIMB", tall.saved(0), -1);
        due("no HOLDS", on("guide leg 1;").saved(0), -1);
        due("not a blind alley", on("hold 5 0 start;hold 4 0;hold 5 1;hold 5 2 top;guide leg 1;").saved(0), 4);

        says(35, "Whether a GUIDE still has a CLIMB behind the WAY of one (it itself, too): 1, 0. -2: one of both; -5: that one has no WAY.");
        FootholdWall y = on(LADDER);
        bounds("leaves(g, 2)", 0, 2, -2, g -> y.leaves(g, 2));
        bounds("leaves(2, other)", 0, 2, -2, other -> y.leaves(2, other));
        due("itself, once", y.leaves(0, 0), 0);
        due("itself, twice", y.leaves(1, 1), 1);
        due("itself, using none", y.leaves(2, 2), 1);
        y.breaks(1);
        due("that one has no WAY", y.leaves(2, 0), -5);
        due("-5 of both", y.leaves(0, 0), -5);
        due("it itself has no CLIMB", y.leaves(0, 2), 0);
        due("-2 ahead of -5", y.leaves(3, 0), -2);

        says(36, "10 + k: the k-th GUIDE of that order (10 to 14; NONE: not so many). -3: a set with others; -2: what.");
        FootholdWall turns = on(FULL);
        bounds("inTurn(set, 0)", 0, 31, -3, set -> turns.inTurn(set, 0));
        for (int what : new int[] {MIN, -1, 1, 9, 15, MAX}) {
            due("inTurn(31, " + what + ")", turns.inTurn(31, what), -2);
            due("-2 ahead of NONE", turns.inTurn(0, what), -2);
            due("-3 first", turns.inTurn(32, what), -3);
        }
        for (int k = 0; k < 5; k++) due("five " + k, turns.inTurn(31, 10 + k), k);
        for (int k = 0; k < 5; k++) due("two " + k, turns.inTurn(18, 10 + k), k == 0 ? 1 : k == 1 ? 4 : -1);
        for (int k = 0; k < 5; k++) due("nobody " + k, turns.inTurn(0, 10 + k), -1);
        due("how many get up", turns.inTurn(31, 0), 5);
        due("by one HOLD", on("hold 0 0 start top;guide leg 1;guide leg 1;").inTurn(3, 0), 2);
        FootholdWall few = on("guide leg 1;guide leg 1;");
        bounds("inTurn of two", 0, 3, -3, set -> few.inTurn(set, 0));
        due("no GUIDES", on("hold 0 0 start top;").inTurn(1, 0), -3);
    }

    static void promises37To39() {
        says(37, "-2: no such TRAY, sort; -3, and the TRAY stays: n is below 0 or above 40.");
        FootholdWall x = on(LADDER);
        bounds("numbers(tray, 0, 1)", 0, 3, -2, t -> x.numbers(t, 0, 1));
        bounds("numbers(0, sort, 1)", 0, 3, -2, sort -> x.numbers(0, sort, 1));
        bounds("numbers(1, 0, n)", 0, 40, -3, n -> x.numbers(1, 0, n));
        due("-2 first: the TRAY", x.numbers(4, 0, 41), -2);
        due("-2 first: the sort", x.numbers(0, 4, -1), -2);
        tray(x, 2, 0, 3);
        for (int n : new int[] {MIN, -1, 41, MAX}) due("numbers(0, 0, " + n + ")", x.numbers(0, 0, n), -3);
        due("numbers(0, 4, 3)", x.numbers(0, 4, 3), -2);
        judged("the TRAY stays", x, -1, 0, 0);
        due("its sort stays", x.write(0, 0, 1L << 40), 1L << 40);
        FootholdWall y = new FootholdWall();
        due("n 41", y.numbers(0, 0, 41), -3);
        due("it stays MISSING", y.write(0, 0, 0), -6);

        says(37, "A TRAY has n numbers of a sort, all 0 (in place of another one): 0.");
        FootholdWall z = on("hold 0 0 start top;guide leg 1;");
        tray(z, 5, 5, 5);
        due("fewer", z.numbers(0, 3, 2), 0);
        judged("all 0", z, -1, 0, 0);
        due("no third", z.write(0, 2, 1), -7);
        due("none", z.numbers(0, 3, 0), 0);
        due("not even one", z.write(0, 0, 1), -7);
        due("more", z.numbers(0, 3, 40), 0);
        due("the 40th", z.write(0, 39, 9), 9);
        judged("all 0 still", z, 2, 2, 0);

        says(38, "Number i of a TRAY is v, cut to its sort: as it is there. -2: no such TRAY; -6; -7.");
        FootholdWall w = new FootholdWall();
        due("MISSING ahead of -7", w.write(0, 99, 1), -6);
        due("no such TRAY ahead of -7", w.write(4, 99, 1), -2);
        for (int t = 0; t < 4; t++) w.numbers(t, t, 40);
        bounds("write(tray, 0, 1)", 0, 3, -2, t -> w.write(t, 0, 1));
        bounds("write(0, i, 1)", 0, 39, -7, i -> w.write(0, i, 1));
        long[] values = {0, 1, -1, 127, 128, -128, -129, 255, 256, 32767, 32768, -32768, -32769, 65535, 65536, MAX, MAX + 1L, MIN, MIN - 1L,
            (1L << 32) - 1, 1L << 32, Long.MAX_VALUE, Long.MIN_VALUE};
        for (long v : values) {
            due("8 bits of " + v, w.write(0, 0, v), (byte) v);
            due("16 bits of " + v, w.write(1, 0, v), (short) v);
            due("32 bits of " + v, w.write(2, 0, v), (int) v);
            due("64 bits of " + v, w.write(3, 0, v), v);
        }
        FootholdWall one = new FootholdWall();
        one.numbers(0, 0, 1);
        bounds("write of one", 0, 0, -7, i -> one.write(0, i, 1));

        says(39, "as many numbers as it has places: how many. -2: the TRAY, the GUIDE; -6; -5: it has none.");
        FootholdWall l = on(LONG + "guide leg 0;");
        due("MISSING", l.lists(0, 0), -6);
        due("MISSING ahead of no WAY", l.lists(0, 1), -6);
        due("-2 ahead of MISSING", l.lists(0, 2), -2);
        for (int n : new int[] {0, 1, 2, 14, 15, 16, 40}) {
            l.numbers(0, 0, n);
            due("lists into " + n, l.lists(0, 0), Math.min(n, 15));
            if (n < 15) judged("cut", l, n, n == 0 ? 1 : 4, 0);
            if (n == 15) judged("just as many", l, -1, 0, 12);
            if (n > 15) judged("a 0 behind it", l, 15, 2, 0);
        }
        for (int t = 0; t < 4; t++) l.numbers(t, t, 15);
        bounds("lists(tray, 0)", 0, 3, -2, t -> l.lists(t, 0));
        bounds("lists(0, g)", 0, 1, -2, g -> l.lists(0, g));
        due("no WAY", l.lists(0, 1), -5);
        judged("the TRAY stays", l, -1, 0, 12);
        due("as a TOLD CLIMB", l.climb(0), 12);
        FootholdWall m = on(FULL);
        m.numbers(0, 0, 4);
        due("of the last GUIDE", m.lists(0, 4), 4);
        due("cut", m.write(0, 3, 0), 0);
        m.numbers(0, 0, 4);
        m.numbers(1, 0, 4);
        m.lists(1, 4);
        judged("a 0 in the place of the TOP", m, 2, 2, 0);
        due("its climb", m.climb(1), 1);
        due("USED by it", m.guide(4, 2), 2);
        FootholdWall behind = on("hold 0 0 top;hold 0 0;hold 0 0 start;guide leg 0;guide leg 0;");
        behind.numbers(0, 0, 4);
        behind.write(0, 3, 1);
        due("fewer than places", behind.lists(0, 1), 3);
        judged("the last number stays", behind, 3, 3, 0);
    }

    static void promises40To42() {
        says(40, "An IMAGE is made: 0. -2.");
        FootholdWall x = on(LADDER);
        bounds("image", 0, 1, -2, i -> x.image(i));
        x.days(3);
        due("in place of another one", x.image(0), 0);
        x.days(3);
        x.restore(0);
        due("the later one", x.count(2), 3);
        x.restore(1);
        due("the other one", x.count(2), 0);

        says(41, "All that is in an IMAGE is as it was: 0. -2; -5: none was made.");
        FootholdWall y = on(LADDER);
        for (int i : new int[] {MIN, -1, 2, MAX}) due("restore(" + i + ")", y.restore(i), -2);
        for (int i = 0; i < 2; i++) due("none was made", y.restore(i), -5);
        y.goes(0);
        y.breaks(3);
        y.newYear();
        y.days(9);
        y.goes(0);
        y.image(0);
        tell(y, FULL + "used 1 by 4;");
        due("restore", y.restore(0), 0);
        int[] counts = {4, 3, 9, 1, 0, 3, 0, 0, 7, 1};
        for (int what = 0; what < 10; what++) due("count(" + what + ")", y.count(what), counts[what]);
        due("no law", y.steps(0, 0, 1), 1);
        due("restore twice", y.restore(0), 0);
        FootholdWall z = new FootholdWall();
        z.image(0);
        tell(z, LADDER);
        z.restore(0);
        due("an image of no wall: HOLDS", z.count(0), 0);
        due("an image of no wall: LINES", z.count(8), 0);

        says(42, "0 HOLDS, 1 GUIDES, 2 DAY, 3 YEARS gone by, 4 USED ones, 5 OPEN ones, 6 calls that can be UNDONE, 7 bytes on THE TAPE, 8 LINES, 9 broken ones. NONE for others.");
        FootholdWall w = new FootholdWall();
        for (int what : new int[] {MIN, -1, 10, MAX}) due("count(" + what + ")", w.count(what), -1);
        for (int what = 0; what < 10; what++) due("of nothing count(" + what + ")", w.count(what), 0);
        w = on(LONG + "day 999;");
        for (int i = 0; i < 11; i++) w.newYear();
        w.goes(0);
        feed(w, " ".repeat(900));
        int[] full = {14, 1, 0, 11, 12, 2, 10, 900, 16, 0};
        for (int what = 0; what < 10; what++) due("of much count(" + what + ")", w.count(what), full[what]);
        for (int h = 0; h < 14; h++) w.breaks(h);
        due("all broken", w.count(9), 14);
        due("none OPEN", w.count(5), 0);
        due("none USED", w.count(4), 0);
    }

    /** "Refused calls answer by a code and change nothing": each refusal that a call can tell, and all behind it. */
    static final class RefusedCalls {
        interface Call { long on(FootholdWall x); }

        static String asItWas = "";

        static void all() {
            says(0, "Refused calls answer by a code and change nothing");
            asItWas = deep(rich(true));
            ofTheWall();
            ofClimbs();
            ofWays();
            ofTrays();
            severalAtOnce();
        }

        /** An object with something in each part; with a full tape, if so wanted. */
        static FootholdWall rich(boolean fullTape) {
            FootholdWall x = on("hold 0 0 start;hold 0 1;hold 0 2;hold 0 3 top;hold 1 1 ice 40;hold 9 9;hold 8 8 start;guide leg 1;guide leg 2;guide leg 3;"
                + "guide leg 0;used 5 by 1;day 3;");
            x.image(0);
            x.goes(1);
            for (int i = 0; i < 9; i++) x.days(1 + i);
            x.breaks(6);
            x.newYear();
            x.goes(1);
            x.days(2);
            x.numbers(0, 3, 3);
            x.write(0, 0, 2);
            x.write(0, 2, 3);
            x.numbers(1, 0, 0);
            x.numbers(2, 1, 5);
            x.write(2, 3, 300);
            feed(x, "hold 1 x;");
            x.wall(9);
            feed(x, fullTape ? "day 5;".repeat(150) : "day 5;".repeat(149));
            return x;
        }

        /** All that can be seen, at last by calls that change it. */
        static String deep(FootholdWall x) {
            StringBuilder b = new StringBuilder(seen(x));
            b.append(x.climb(0)).append(' ').append(x.write(2, 4, 1L << 17)).append(' ');
            for (int left = x.count(6); left > 0; left--) b.append(x.undo(1)).append(seen(x));
            b.append(x.restore(1)).append(' ').append(x.restore(0)).append(seen(x));
            b.append(x.wall(x.count(7))).append(seen(x));
            return b.toString();
        }

        static String seen(FootholdWall x) {
            StringBuilder b = new StringBuilder("\n");
            for (int what = 0; what < 10; what++) b.append(x.count(what)).append(' ');
            for (int what = 0; what < 2; what++) b.append(x.fault(what)).append(' ');
            for (int h = 0; h < x.count(0); h++) for (int what = 0; what < 10; what++) b.append(x.hold(h, what)).append(' ');
            for (int g = 0; g < x.count(1); g++) for (int what = 0; what < 3; what++) b.append(x.guide(g, what)).append(' ');
            for (int t = 0; t < 4; t++) for (int what = 0; what < 3; what++) b.append(x.judge(t, what)).append(' ');
            return b.append(x.able()).append(' ').toString();
        }

        static void refused(String name, long code, Call call) {
            FootholdWall x = rich(true);
            due(name, call.on(x), code);
            due(name + " changed nothing", deep(x).equals(asItWas) ? 1 : 0, 1);
        }

        static void ofTheWall() {
            refused("feed", -5, x -> x.feed(1, 2, 3, 4, 5));
            refused("wall(-1)", -3, x -> x.wall(-1));
            refused("wall(901)", -3, x -> x.wall(901));
            refused("hold(7, 0)", -8, x -> x.hold(7, 0));
            refused("hold(0, 10)", -8, x -> x.hold(0, 10));
            refused("guide(4, 0)", -2, x -> x.guide(4, 0));
            refused("guide(0, 3)", -2, x -> x.guide(0, 3));
            refused("steps(4, 0, 1)", -2, x -> x.steps(4, 0, 1));
            refused("steps(0, 7, 1)", -2, x -> x.steps(0, 7, 1));
            refused("steps(0, 0, 7)", -2, x -> x.steps(0, 0, 7));
            refused("steps(0, 1, 1)", -2, x -> x.steps(0, 1, 1));
            refused("reach(4)", -2, x -> x.reach(4));
        }

        static void ofClimbs() {
            refused("judge(4, 0)", -2, x -> x.judge(4, 0));
            refused("judge(0, 3)", -2, x -> x.judge(0, 3));
            refused("judge(3, 0)", -6, x -> x.judge(3, 0));
            refused("climb(4)", -2, x -> x.climb(4));
            refused("climb(3)", -6, x -> x.climb(3));
            refused("climb(1)", -5, x -> x.climb(1));
            refused("climb(2)", -5, x -> x.climb(2));
            refused("goes(4)", -2, x -> x.goes(4));
            refused("goes(3)", -5, x -> x.goes(3));
            refused("days(0)", -3, x -> x.days(0));
            refused("days(100)", -3, x -> x.days(100));
            refused("rain(0)", -3, x -> x.rain(0));
            refused("rain(15)", -3, x -> x.rain(15));
            refused("breaks(7)", -2, x -> x.breaks(7));
            refused("breaks(6)", -5, x -> x.breaks(6));
            refused("undo(0)", -3, x -> x.undo(0));
            refused("undo(11)", -3, x -> x.undo(11));
            refused("season(1, 0)", -3, x -> x.season(1, 0));
            refused("season(1, 41)", -3, x -> x.season(1, 41));
        }

        static void ofWays() {
            refused("way(4, 0)", -2, x -> x.way(4, 0));
            refused("way(0, 24)", -2, x -> x.way(0, 24));
            refused("ways(4)", -2, x -> x.ways(4));
            refused("climbs(4, 1)", -2, x -> x.climbs(4, 1));
            refused("climbs(0, 8)", -3, x -> x.climbs(0, 8));
            refused("parties(4)", -2, x -> x.parties(4));
            refused("shut(4, 0)", -2, x -> x.shut(4, 0));
            refused("shut(0, 2)", -2, x -> x.shut(0, 2));
            refused("needed(4)", -2, x -> x.needed(4));
            refused("idle(4)", -2, x -> x.idle(4));
            refused("needers(7)", -2, x -> x.needers(7));
            refused("highest(4)", -2, x -> x.highest(4));
            refused("together(0, 4)", -2, x -> x.together(0, 4));
            refused("leastLeg(4)", -2, x -> x.leastLeg(4));
            refused("opens(4)", -2, x -> x.opens(4));
            refused("dearest(4)", -2, x -> x.dearest(4));
            refused("whose(1)", -3, x -> x.whose(1));
            refused("order(4, 0, 0)", -2, x -> x.order(4, 0, 0));
            refused("order(0, 0, 24)", -2, x -> x.order(0, 0, 24));
            refused("order(0, 1, 0)", -3, x -> x.order(0, 1, 0));
            refused("saved(4)", -2, x -> x.saved(4));
            refused("leaves(4, 0)", -2, x -> x.leaves(4, 0));
            refused("leaves(0, 3)", -5, x -> x.leaves(0, 3));
            refused("inTurn(16, 0)", -3, x -> x.inTurn(16, 0));
            refused("inTurn(0, 15)", -2, x -> x.inTurn(0, 15));
        }

        static void ofTrays() {
            refused("numbers(4, 0, 1)", -2, x -> x.numbers(4, 0, 1));
            refused("numbers(0, 4, 1)", -2, x -> x.numbers(0, 4, 1));
            refused("numbers(0, 0, -1)", -3, x -> x.numbers(0, 0, -1));
            refused("numbers(0, 0, 41)", -3, x -> x.numbers(0, 0, 41));
            refused("write(4, 0, 1)", -2, x -> x.write(4, 0, 1));
            refused("write(3, 0, 1)", -6, x -> x.write(3, 0, 1));
            refused("write(0, 3, 1)", -7, x -> x.write(0, 3, 1));
            refused("write(1, 0, 1)", -7, x -> x.write(1, 0, 1));
            refused("write(0, -1, 1)", -7, x -> x.write(0, -1, 1));
            refused("lists(4, 0)", -2, x -> x.lists(4, 0));
            refused("lists(0, 4)", -2, x -> x.lists(0, 4));
            refused("lists(3, 0)", -6, x -> x.lists(3, 0));
            refused("lists(0, 3)", -5, x -> x.lists(0, 3));
            refused("image(2)", -2, x -> x.image(2));
            refused("restore(2)", -2, x -> x.restore(2));
            refused("restore(1)", -5, x -> x.restore(1));
        }

        static void severalAtOnce() {
            says(0, "(Of several that which the call tells first; all these ahead of NONE.)");
            refused("judge(3, 3): -2 ahead of -6", -2, x -> x.judge(3, 3));
            refused("climbs(4, 8): -2 ahead of -3", -2, x -> x.climbs(4, 8));
            refused("way(3, 1): -2 ahead of NONE", -2, x -> x.way(3, 1));
            refused("shut(2, 2): -2 ahead of NONE", -2, x -> x.shut(2, 2));
            refused("order(4, 1, 0): -2 ahead of -3", -2, x -> x.order(4, 1, 0));
            refused("order(0, 1, 1): -2 ahead of -3", -2, x -> x.order(0, 1, 1));
            refused("order(3, 0, 1): -2 ahead of NONE", -2, x -> x.order(3, 0, 1));
            refused("order(3, 1, 0): -3 ahead of NONE", -3, x -> x.order(3, 1, 0));
            refused("leaves(4, 3): -2 ahead of -5", -2, x -> x.leaves(4, 3));
            refused("inTurn(16, 1): -3 ahead of -2", -3, x -> x.inTurn(16, 1));
            refused("inTurn(0, 1): -2 ahead of NONE", -2, x -> x.inTurn(0, 1));
            refused("numbers(4, 4, 41): -2 ahead of -3", -2, x -> x.numbers(4, 4, 41));
            refused("numbers(0, 4, 41): -2 ahead of -3", -2, x -> x.numbers(0, 4, 41));
            refused("write(4, 9, 1): -2 ahead of -7", -2, x -> x.write(4, 9, 1));
            refused("write(3, 9, 1): -6 ahead of -7", -6, x -> x.write(3, 9, 1));
            refused("lists(3, 4): -2 ahead of -6", -2, x -> x.lists(3, 4));
            refused("lists(3, 3): -6 ahead of -5", -6, x -> x.lists(3, 3));
            due("season(1, 41) without GUIDES: -3 ahead of -5", new FootholdWall().season(1, 41), -3);
        }
    }
}
