import java.util.Arrays;

/** Each promise of the document by itself: ordinary calls, the edges that it names, and wrong calls. */
public final class PromiseTest {
    private static final int MIN = Integer.MIN_VALUE;
    private static final int MAX = Integer.MAX_VALUE;
    /** A ladder of four holds; guide 0 takes every rung, guide 1 leaves one out, guide 2 steps right up. */
    private static final String LADDER =
        "hold 0 0 start;hold 0 1;hold 0 2;hold 0 3 top;guide leg 1;guide leg 2;guide leg 3;";
    /** Two holds side by side; guide 1 can only take the first. */
    private static final String FORK = "hold 5 0 start;hold 5 2;hold 6 2;hold 5 4 top;guide leg 3;guide leg 2;";

    private static int wrong = 0;
    private static int asked = 0;

    public static void main(String[] args) {
        newObject();
        feedAndWall();
        faults();
        tokens();
        bounds();
        law();
        lawKept();
        told();
        toldUsedAndBroken();
        holdAndGuide();
        stepsAndReach();
        judged();
        climbed();
        goesAndDays();
        rain();
        breaksAndNewYear();
        undo();
        season();
        ways();
        parties();
        needed();
        idle();
        meeting();
        legsAndDays();
        whose();
        saved();
        inTurn();
        trays();
        lists();
        images();
        count();
        System.out.println("PromiseTest: " + asked + " asked, " + wrong + " wrong");
        if (wrong != 0) System.exit(1);
    }

    static void due(String call, long got, long want) {
        asked++;
        if (got != want) {
            wrong++;
            System.out.println(call + " answered " + got + ", due is " + want);
        }
    }

    static int feed(FootholdWall x, String text) {
        byte[] b = new byte[(text.length() + 19) / 20 * 20];
        Arrays.fill(b, (byte) ' ');
        for (int i = 0; i < text.length(); i++) b[i] = (byte) text.charAt(i);
        int have = 0;
        for (int i = 0; i < b.length; i += 20) {
            int[] v = new int[5];
            for (int k = 0; k < 20; k++) v[k / 4] = v[k / 4] << 8 | b[i + k] & 255;
            have = x.feed(v[0], v[1], v[2], v[3], v[4]);
        }
        return have;
    }

    static int tell(FootholdWall x, String text) {
        feed(x, text);
        return x.wall(text.length());
    }

    static FootholdWall on(String text) {
        FootholdWall x = new FootholdWall();
        int lines = tell(x, text);
        if (lines < 0) due("wall of " + text + " at " + x.fault(1), lines, 0);
        return x;
    }

    /** A told climb comes into tray 0. */
    static void tray(FootholdWall x, long... numbers) {
        x.numbers(0, 3, numbers.length);
        for (int i = 0; i < numbers.length; i++) x.write(0, i, numbers[i]);
    }

    // promise 1
    static void newObject() {
        FootholdWall x = new FootholdWall();
        for (int what = 0; what < 10; what++) due("new: count(" + what + ")", x.count(what), 0);
        due("new: hold", x.hold(0, 0), -8);
        due("new: guide", x.guide(0, 0), -2);
        due("new: able", x.able(), 0);
        due("new: whose(0)", x.whose(0), 0);
        due("new: fault(0)", x.fault(0), 0);
        due("new: fault(1)", x.fault(1), -1);
        due("new: days", x.days(1), 1);
        due("new: undo", x.undo(1), 0);
        due("NONE", FootholdWall.NONE, -1);
    }

    // promises 2, 3
    static void feedAndWall() {
        FootholdWall x = new FootholdWall();
        for (int i = 1; i <= 45; i++) due("feed " + i, x.feed(0x20202020, 0x20202020, 0x20202020, 0x0a202020, 0x20202020), 20 * i);
        due("feed too much", x.feed(0, 0, 0, 0, 0), -5);
        due("count(7)", x.count(7), 900);
        due("wall(-1)", x.wall(-1), -3);
        due("wall(901)", x.wall(901), -3);
        due("wall(MIN)", x.wall(MIN), -3);
        due("the tape stays", x.count(7), 900);
        due("wall(900) of blanks", x.wall(900), 0);
        due("the tape is empty", x.count(7), 0);
        due("wall(1)", x.wall(1), -3);
        due("wall(0)", x.wall(0), 0);

        x = on(LADDER);
        due("LINES", x.count(8), 7);
        x.goes(0);
        x.newYear();
        due("a FAULT", tell(x, "hold 1 1;hold"), -32);
        due("all stays", x.count(0), 4);
        due("all stays: LINES", x.count(8), 7);
        due("all stays: undone", x.count(6), 2);
        due("the tape is empty with a FAULT too", x.count(7), 0);
        feed(x, "day 3;xxxxxxxxxxxxxxxxxxxxxxxxxxxxxx");
        due("the first n bytes", x.wall(6), 1);
        due("the rest is gone", x.count(7), 0);
        due("nothing can be undone", x.count(6), 0);
        due("undo", x.undo(1), -3);
        due("no holds", x.count(0), 0);
        due("DAY", x.count(2), 3);
        due("YEARS", x.count(3), 0);
        due("bytes: the highest first", bytesInOrder(), 1);
    }

    static int bytesInOrder() {
        FootholdWall x = new FootholdWall();
        x.feed(('d' << 24) | ('a' << 16) | ('y' << 8) | ' ', ('4' << 24) | ('2' << 16) | (';' << 8) | 'd', ('a' << 24) | ('y' << 16) | (' ' << 8) | '7', ';' << 24 | 0x202020, 0);
        return x.wall(13) == 2 && x.count(2) == 7 ? 1 : 0;
    }

    static void fault(String text, int kind, int place) {
        FootholdWall x = new FootholdWall();
        due("wall of " + text, tell(x, text), -30 - kind);
        due("fault(0) of " + text, x.fault(0), kind);
        due("fault(1) of " + text, x.fault(1), place);
    }

    static void fine(String text, int lines) {
        FootholdWall x = new FootholdWall();
        due("wall of " + text, tell(x, text), lines);
        due("fault(0) of " + text, x.fault(0), 0);
        due("fault(1) of " + text, x.fault(1), -1);
    }

    // promise 4
    static void faults() {
        FootholdWall x = new FootholdWall();
        tell(x, "hold 1 x;");
        due("fault(0)", x.fault(0), 2);
        due("fault(1)", x.fault(1), 7);
        due("fault(2)", x.fault(2), -1);
        due("fault(-1)", x.fault(-1), -1);
        due("wall(7)", x.wall(7), -3);
        due("a wall that was not read", x.fault(0), 2);
        due("its place", x.fault(1), 7);
        tell(x, "day 1;");
        due("a fine wall", x.fault(0), 0);
        due("its place", x.fault(1), -1);
        tell(x, ";");
        due("an empty line", x.fault(0), 2);
        due("its place 0", x.fault(1), 0);
        x.image(0);
        x.restore(0);
        due("restore brings no fault back", x.fault(0), 2);
    }

    static void tokens() {
        fine("", 0);
        fine(" \n ", 0);
        fine("hold1 2start\ntop;guide leg1weight2;", 2);
        fine("step:[1=1]and not[2<1]or(dx+up)*far>leg-weight;", 1);
        fault("hold 1 1 Start;", 1, 9);
        fault("hold 1 1\tstart;", 1, 8);
        fault("hold 1 1\rstart;", 1, 8);
        fault("hold 1 1 \u00e9;", 1, 9);
        fault("hold 1 1 \u00ff;", 1, 9);
        fault("\0", 1, 0);
        fault("hold 1 1000;", 1, 7);
        fault("hold 0001 1;", 1, 5);
        fine("hold 001 099;", 1);
        fault("1000", 1, 0);
        fault("100", 2, 0);
        fault("startx", 2, 0);
        fault("z;", 2, 0);
        fault("{;", 1, 0);
        fault("`;", 1, 0);
        fault("/;", 1, 0);
        fault("bold 1 1;", 2, 0);
        fault("holds 1 1;", 2, 0);
        fault("hol 1 1;", 2, 0);
        fault("hold 1 1 startx;", 2, 9);
        fault("hold 1 1 start", 2, 14);
        fault("hold 1 1 start \n ", 2, 17);
        fault("hold 1 1 ice start;", 2, 13);
        fault("hold 1 1 5;", 2, 9);
        fault("hold 1 1;;", 2, 9);
        fault("hold", 2, 4);
        fault("guide leg 1 weight;", 2, 18);
        fault("guide weight 1;", 2, 6);
        fault("guide leg 1 weight 1 weight 1;", 2, 21);
        fault("guide leg 1 leg 1;", 2, 12);
        fault("day;", 2, 3);
        fault("day 1 2;", 2, 6);
        fault("broken;", 2, 6);
        fault("used by 0;", 2, 5);
        fault("step 1 = 1;", 2, 5);
        fault("step :;", 2, 6);
    }

    static void bounds() {
        fine("hold 99 99 ice 999;guide leg 99 weight 99;day 999;", 3);
        fault("hold 100 100;", 3, 5);
        fault("hold 1 100 A", 3, 7);
        fault("guide leg 100;", 3, 10);
        fault("guide leg 1 weight 100;", 3, 19);
        fault("broken 0;hold 1 1;", 3, 7);
        fault("hold 1 1;broken 1;", 3, 16);
        fine("hold 1 1 start;broken 0;", 2);
        fault("hold 1 1;used 0 by 0;guide leg 1;", 3, 19);
        fault("guide leg 1;used 0 by 0;hold 1 1;", 3, 17);
        fault("guide leg 1;hold 1 1 top;used 0 by 0;", 3, 30);
        fault("guide leg 1;hold 1 1 start;used 0 by 0;", 3, 32);
        String holds = "hold 1 1;hold 1 1;hold 1 1;hold 1 1;hold 1 1;hold 1 1;hold 1 1;";
        fine(holds + holds, 14);
        fault(holds + holds + "hold 1 1;", 4, 126);
        fault(holds + holds + "hold A", 4, 126);
        String guides = "guide leg 1;guide leg 1;guide leg 1;guide leg 1;guide leg 1;";
        fine(guides, 5);
        fault(guides + "guide", 4, 60);
        fine("step : not not not not not not 1 = 1;", 1);
        fault("step : not not not not not not not 1 = 1;", 4, 31);
        fault("step : not not not not not not (1) = 1;", 4, 31);
        fault("step : not not not not not not [1 = 1];", 4, 31);
        fine("step : [[[(((1))) = 1]]];", 1);
        fault("step : [[[((((1)))) = 1]]];", 4, 13);
        fine("step : not not not 1 = 1 and not not not not not not 1 = 1;", 1);
        fine("step : ((((((1)))))) = ((((((1)))))) and [[[[[[1 = 1]]]]]];", 1);
    }

    static int steps(String law, String guide) {
        FootholdWall x = on("hold 3 5;hold 1 9 wide;guide " + guide + ";step : " + law + ";day 7;");
        return x.steps(0, 0, 1);
    }

    static void law() {
        fault("step : [1 = 1;", 2, 13);
        fault("step : 1 = 1];", 2, 12);
        fault("step : (1 = 1);", 2, 10);
        fault("step : [1] = 1;", 2, 9);
        fault("step : 1 = 1 = 1;", 2, 13);
        fault("step : 1 = 1 and;", 2, 16);
        fault("step : - 1 = 1;", 2, 7);
        fault("step : not;", 2, 10);
        fault("step : hold = 1;", 2, 7);
        fault("step : 1 + not 1 = 1;", 2, 11);
        String g = "leg 4 weight 6";
        due("dx", steps("dx = 2", g), 1);
        due("up", steps("up = 4", g), 1);
        due("far", steps("far = 6", g), 1);
        due("leg", steps("leg = 4", g), 1);
        due("weight", steps("weight = 6", g), 1);
        due("wide", steps("wide = 1", g), 1);
        due("day", steps("day = 7", g), 1);
        due("<", steps("far < 6", g), 0);
        due("< more", steps("far < 7", g), 1);
        due(">", steps("far > 6", g), 0);
        due("> less", steps("far > 5", g), 1);
        due("not", steps("not far = 6", g), 0);
        due("not [..]", steps("not [far = 6 and dx = 3]", g), 1);
        due("not binds one unit", steps("not 1 = 2 and 1 = 2", g), 0);
        due("and ahead of or", steps("1 = 1 or 1 = 1 and 1 = 2", g), 1);
        due("[ ] first", steps("[1 = 1 or 1 = 1] and 1 = 2", g), 0);
        due("or", steps("1 = 2 or 1 = 3 or 1 = 1", g), 1);
        due("none of or", steps("1 = 2 or 1 = 3", g), 0);
        due("* ahead of +", steps("2 + 3 * 4 = 14", g), 1);
        due("( ) first", steps("(2 + 3) * 4 = 20", g), 1);
        due("- from the left", steps("9 - 3 - 2 = 4", g), 1);
        due("without a law", on("hold 3 5;hold 1 9;guide leg 6;").steps(0, 0, 1), 1);
        due("without a law, too far", on("hold 3 5;hold 1 9;guide leg 5;").steps(0, 0, 1), 0);
        FootholdWall x = on("hold 3 5;hold 1 9 wide;guide leg 4;step : up < 0;step : up < 0 - 3 and wide = 0;");
        due("later step strikes, from above", x.steps(0, 1, 0), 1);
        due("later step strikes, from below", x.steps(0, 0, 1), 0);
    }

    static void lawKept() {
        String g = "leg 4 weight 6";
        due("kept at most", steps("999 * 999 * 999 = 999 * 999 + 999 * 9", g), 1);
        due("kept at least", steps("0 - 999 * 999 * 2 = 0 - 999 * 999 * 9", g), 1);
        due("each kept", steps("999 * 999 * 2 - 999 * 999 = 999 + 999 + 1", g), 1);
        due("sums kept", steps("999 * 999 + 999 * 999 - 999 * 999 = 999 + 999 + 1", g), 1);
        due("just below", steps("999 * 999 + 999 + 999 + 1 > 999 * 999 + 999 + 999", g), 1);
        due("a million", steps("100 * 100 * 100 + 1 = 100 * 100 * 100", g), 1);
        due("less a million", steps("0 - 100 * 100 * 100 - 1 = 0 - 100 * 100 * 100", g), 1);
        due("minus times minus", steps("(0 - 999 * 999 * 9) * (0 - 999 * 999 * 9) = 100 * 100 * 100", g), 1);
    }

    static void told() {
        FootholdWall x = on("hold 1 2 ice 5 ice 7 wide wide;guide leg 3;guide leg 4;used 0 by 0;used 0 by 1;day 3;day 9;");
        due("later ice", x.hold(0, 9), 7);
        due("later used", x.hold(0, 6), 1);
        due("used on the first DAY", x.hold(0, 7), 9);
        due("later day", x.count(2), 9);
        due("WEIGHT 0", x.guide(0, 1), 0);
    }

    // promises 3, 14: what a text tells used and then broken is USED no more
    static void toldUsedAndBroken() {
        FootholdWall x = on(LADDER + "used 1 by 2;used 2 by 0;day 4;broken 1;");
        due("USED ones", x.count(4), 1);
        due("USED by none", x.hold(1, 6), -1);
        due("on no DAY", x.hold(1, 7), -1);
        due("broken", x.hold(1, 8), 1);
        due("not THERE", x.hold(1, 4), 0);
        due("not of the guide", x.guide(2, 2), 0);
        due("the other one is", x.guide(0, 2), 4);
        due("breaks", x.breaks(1), -5);
        due("newYear", x.newYear(), 1);
        due("undo", x.undo(1), 0);
        due("one comes back", x.rain(14), 1);
        due("it stays broken", x.count(9), 1);
        x = on(LADDER + "used 1 by 2;broken 1;broken 1;");
        due("broken twice", x.count(4) * 10 + x.count(9), 1);
        x = on(LADDER + "broken 1;used 1 by 2;");
        due("told used behind that", x.hold(1, 6), 2);
        due("and broken", x.hold(1, 8), 1);
        due("not OPEN", x.hold(1, 5), 0);
        due("it comes back", x.rain(1), 1);
        due("and isn't THERE", x.hold(1, 4), 0);
    }

    // promises 5, 6
    static void holdAndGuide() {
        FootholdWall x = on("hold 10 20 start;hold 30 40 ice 5;hold 99 0 top;hold 0 99;guide leg 7 weight 8;guide leg 9;"
            + "used 3 by 1;broken 2;day 4;");
        int[][] due = {
            {10, 20, 1, 0, 1, 1, -1, -1, 0, 0},
            {30, 40, 0, 0, 0, 0, -1, -1, 0, 5},
            {99, 0, 0, 1, 0, 0, -1, -1, 1, 0},
            {0, 99, 0, 0, 1, 0, 1, 4, 0, 0}};
        for (int h = 0; h < 4; h++) for (int what = 0; what < 10; what++) due("hold(" + h + ", " + what + ")", x.hold(h, what), due[h][what]);
        for (int h : new int[] {-1, 4, 14, MIN, MAX}) due("hold(" + h + ", 0)", x.hold(h, 0), -8);
        for (int what : new int[] {-1, 10, MIN, MAX}) due("hold(0, " + what + ")", x.hold(0, what), -8);
        x.days(1);
        due("ice has come: THERE", x.hold(1, 4), 1);
        due("ice has come: OPEN", x.hold(1, 5), 1);
        due("LEG", x.guide(0, 0), 7);
        due("WEIGHT", x.guide(0, 1), 8);
        due("USED by it", x.guide(0, 2), 0);
        due("USED by it", x.guide(1, 2), 8);
        due("guide(0, 3)", x.guide(0, 3), -2);
        due("guide(0, -1)", x.guide(0, -1), -2);
        due("guide(2, 0)", x.guide(2, 0), -2);
        due("guide(-1, 0)", x.guide(-1, 0), -2);
    }

    // promises 7, 8, 27
    static void stepsAndReach() {
        FootholdWall x = on(LADDER);
        due("steps", x.steps(0, 0, 1), 1);
        due("steps down", x.steps(0, 1, 0), 1);
        due("steps too far", x.steps(0, 0, 2), 0);
        due("steps both one", x.steps(0, 1, 1), -2);
        due("steps no guide", x.steps(3, 0, 1), -2);
        due("steps no hold", x.steps(0, 4, 1), -2);
        due("steps no hold", x.steps(0, 1, -1), -2);
        due("reach", x.reach(0), 15);
        due("reach(-1)", x.reach(-1), -2);
        due("reach(3)", x.reach(3), -2);
        due("highest", x.highest(0), 3);
        x.breaks(1);
        due("steps to a broken one", x.steps(0, 0, 1), 1);
        due("reach stops", x.reach(0), 1);
        due("highest at the start", x.highest(0), 0);
        due("reach of a longer leg", x.reach(1), 13);
        x.breaks(0);
        due("no start", x.reach(1), 0);
        due("highest: none", x.highest(1), -1);
        due("highest(3)", x.highest(3), -2);
        x = on("hold 0 0 start;hold 0 1 top;hold 0 2;hold 0 9 start top;guide leg 1;");
        due("a TOP is gone on from no more", x.reach(0), 11);
        x = on("hold 0 0 start;hold 0 1 ice 5;guide leg 1;step : day > 5;");
        due("law by the day", x.steps(0, 0, 1), 0);
        x.days(6);
        due("law by the day, later", x.steps(0, 0, 1), 1);
        due("reach by ice", x.reach(0), 3);
    }

    static void judgedAs(String what, FootholdWall x, int place, int why, int used) {
        due(what + ": place", x.judge(0, 0), place);
        due(what + ": why", x.judge(0, 1), why);
        due(what + ": used", x.judge(0, 2), used);
        if (why > 0) due(what + ": climb", x.climb(0), -5);
    }

    // promise 9
    static void judged() {
        FootholdWall x = on(LADDER + "hold 0 4 start top;hold 9 9 ice 2;used 2 by 0;");
        due("judge missing", x.judge(0, 0), -6);
        due("judge(4, 0)", x.judge(4, 0), -2);
        due("judge(-1, 0)", x.judge(-1, 0), -2);
        due("judge(0, 3)", x.judge(0, 3), -2);
        due("judge(0, -1)", x.judge(0, -1), -2);
        tray(x);
        judgedAs("nothing", x, 0, 1, 0);
        tray(x, 3, 0);
        judgedAs("no such guide", x, 0, 1, 0);
        tray(x, -1, 0);
        judgedAs("no such guide", x, 0, 1, 0);
        tray(x, 1L << 32, 0);
        judgedAs("no such guide, large", x, 0, 1, 0);
        tray(x, 1);
        judgedAs("without holds", x, 1, 4, 0);
        tray(x, 1, 6);
        judgedAs("no such hold", x, 1, 1, 0);
        tray(x, 1, -1);
        judgedAs("no such hold", x, 1, 1, 0);
        tray(x, 1, 1L << 32);
        judgedAs("no such hold, large", x, 1, 1, 0);
        tray(x, 1, 1);
        judgedAs("no START", x, 1, 3, 0);
        tray(x, 1, 2);
        judgedAs("used", x, 1, 2, 0);
        tray(x, 1, 0, 5);
        judgedAs("not there", x, 2, 2, 0);
        tray(x, 1, 0, 1, 0);
        judgedAs("in it already", x, 3, 2, 0);
        tray(x, 0, 0, 3);
        judgedAs("too far", x, 2, 3, 0);
        tray(x, 1, 0, 1, 3, 4);
        judgedAs("a TOP ahead", x, 4, 3, 0);
        tray(x, 1, 4, 0);
        judgedAs("a START that is TOP ahead", x, 2, 3, 0);
        tray(x, 1, 0, 1);
        judgedAs("no TOP last", x, 3, 4, 0);
        tray(x, 1, 0, 1, 3);
        judgedAs("a climb", x, -1, 0, 1);
        tray(x, 1, 4);
        judgedAs("one hold", x, -1, 0, 0);
        tray(x, 1, 0, 1, 9);
        judgedAs("the first place", x, 3, 1, 0);
        due("judging does nothing", x.count(4), 1);
        due("judging can't be undone", x.count(6), 0);
    }

    // promise 10
    static void climbed() {
        FootholdWall x = on(LADDER);
        due("climb missing", x.climb(0), -6);
        due("climb(4)", x.climb(4), -2);
        due("climb(-1)", x.climb(-1), -2);
        x.days(3);
        tray(x, 1, 0, 2, 1, 3);
        due("climb", x.climb(0), 2);
        due("by whom", x.hold(1, 6), 1);
        due("when", x.hold(2, 7), 3);
        due("START is never USED", x.hold(0, 6), -1);
        due("TOP is never USED", x.hold(3, 5), 1);
        due("once more", x.climb(0), -5);
        due("refused: not undone", x.count(6), 2);
        tray(x, 2, 0, 3);
        due("a climb that uses none", x.climb(0), 0);
        due("it can be undone", x.count(6), 3);
    }

    // promises 11, 12
    static void goesAndDays() {
        FootholdWall x = on(LADDER);
        due("goes(3)", x.goes(3), -2);
        due("goes(-1)", x.goes(-1), -2);
        due("goes", x.goes(1), 1);
        due("the first way", x.guide(1, 2), 2);
        due("goes again", x.goes(1), 1);
        due("the other way", x.guide(1, 2), 6);
        due("no way", x.goes(1), -5);
        due("refused: not undone", x.count(6), 2);
        due("uses none", x.goes(2), 0);
        due("undone", x.count(6), 3);
        due("days(0)", x.days(0), -3);
        due("days(100)", x.days(100), -3);
        due("days(-1)", x.days(-1), -3);
        due("days(1)", x.days(1), 1);
        due("days(99)", x.days(99), 100);
    }

    // promise 13
    static void rain() {
        FootholdWall x = on("hold 0 0 start;hold 0 1;hold 0 2;hold 0 3;hold 0 4 top;guide leg 2;guide leg 1;day 5;");
        due("rain(0)", x.rain(0), -3);
        due("rain(15)", x.rain(15), -3);
        due("no rain", x.rain(14), 0);
        due("not undone", x.count(6), 0);
        tray(x, 0, 0, 2, 4);
        x.climb(0);
        x.days(1);
        tray(x, 0, 0, 1, 3, 4);
        x.climb(0);
        due("rain of 1", x.rain(1), 1);
        due("longest ago", x.count(4), 2);
        due("the one of the day ahead", x.hold(2, 5), 1);
        due("rain of 1", x.rain(1), 1);
        due("the first of like ones", x.hold(1, 5), 1);
        due("the other stays", x.hold(3, 6), 0);
        due("rain of more", x.rain(14), 1);
        due("none", x.count(4), 0);
        due("undone as a whole", x.undo(3), 3);
        due("all three", x.count(4), 3);
    }

    // promises 14, 15
    static void breaksAndNewYear() {
        FootholdWall x = on(LADDER + "hold 9 9 ice 3;used 1 by 2;day 4;");
        due("breaks(-1)", x.breaks(-1), -2);
        due("breaks(5)", x.breaks(5), -2);
        due("a used one breaks", x.breaks(1), 1);
        due("USED no more", x.hold(1, 6), -1);
        due("on no DAY", x.hold(1, 7), -1);
        due("not of the guide", x.guide(2, 2), 0);
        due("not THERE", x.hold(1, 4), 0);
        due("breaks again", x.breaks(1), -5);
        due("a START breaks", x.breaks(0), 0);
        due("broken ones", x.count(9), 2);
        due("no rain for it", x.rain(1), 0);
        due("undo", x.undo(2), 0);
        due("used again", x.hold(1, 6), 2);
        due("newYear", x.newYear(), 1);
        due("DAY", x.count(2), 0);
        due("YEARS", x.count(3), 1);
        due("none USED", x.count(4), 0);
        due("ice goes", x.hold(4, 4), 0);
        due("newYear again", x.newYear(), 0);
        due("YEARS", x.count(3), 2);
        x.breaks(1);
        x.newYear();
        due("broken ones stay", x.hold(1, 8), 1);
        due("undo years", x.undo(4), 0);
        due("YEARS as ahead", x.count(3), 0);
        due("DAY as ahead", x.count(2), 4);
    }

    // promise 16
    static void undo() {
        FootholdWall x = on(LADDER);
        due("undo(1)", x.undo(1), -3);
        for (int i = 1; i <= 12; i++) {
            x.days(1);
            due("can be undone", x.count(6), Math.min(i, 10));
        }
        due("undo(0)", x.undo(0), -3);
        due("undo(11)", x.undo(11), -3);
        due("undo(-1)", x.undo(-1), -3);
        due("undo(MIN)", x.undo(MIN), -3);
        due("undo(3)", x.undo(3), 7);
        due("DAY", x.count(2), 9);
        due("undo(8)", x.undo(8), -3);
        x.days(50);
        due("undo(8)", x.undo(8), 0);
        due("DAY", x.count(2), 2);
        x.goes(0);
        x.rain(1);
        x.breaks(3);
        due("undo each", x.undo(1), 2);
        due("not broken", x.count(9), 0);
        due("undo each", x.undo(1), 1);
        due("USED", x.count(4), 2);
        due("by whom", x.hold(1, 6), 0);
        due("undo each", x.undo(1), 0);
        due("not USED", x.count(4), 0);
    }

    // promise 17
    static void season() {
        FootholdWall x = new FootholdWall();
        due("no guides", x.season(1, 1), -5);
        due("times 0, no guides", x.season(1, 0), -3);
        x = on(LADDER);
        due("times 41", x.season(1, 41), -3);
        due("times -1", x.season(1, -1), -3);
        // Seed 0 draws 0, 54236, 42756: three DAYS; 54885, 3498: guide 0 goes; 49695: RAIN; 16045, 52509: guide 0
        // has no WAY; 44890, 8410: guide 1 goes.
        due("four times", x.season(0, 4), 1);
        due("DAY", x.count(2), 3);
        due("USED", x.guide(0, 2), 6);
        due("undone as a whole", x.count(6), 1);
        due("undo", x.undo(1), 0);
        due("DAY", x.count(2), 0);
        due("seven times", x.season(0, 7), 2);
        due("came back, and USED by guide 1", x.guide(1, 2), 2);
        due("still USED by guide 0", x.guide(0, 2), 4);
        due("on DAY", x.hold(1, 7), 3);
        x = on("hold 0 0;guide leg 1;");
        int nothing = 0;
        while (nothing < 1000 && (draw(nothing) % 4 == 0)) nothing++;
        due("a season of nothing", x.season(nothing, 1), 0);
        due("can't be undone", x.count(6), 0);
        seasons();
    }

    static int draw(int seed) { return (1103515245 * seed + 12345) >>> 16; }

    /** A season is what its calls are, one by one. */
    static void seasons() {
        for (int seed = -20; seed < 20; seed++) {
            FootholdWall x = on(LADDER + "hold 0 5;used 4 by 0;");
            FootholdWall y = on(LADDER + "hold 0 5;used 4 by 0;");
            int drawn = seed * 99991;
            int up = 0;
            for (int i = 0; i < 40; i++) {
                drawn = 1103515245 * drawn + 12345;
                int kind = (drawn >>> 16) % 4;
                if (kind == 0) y.days(1);
                if (kind == 3) y.rain(1);
                if (kind == 1 || kind == 2) {
                    drawn = 1103515245 * drawn + 12345;
                    if (y.goes((drawn >>> 16) % 3) >= 0) up++;
                }
            }
            due("season " + seed, x.season(seed * 99991, 40), up);
            for (int what = 2; what < 6; what++) due("season " + seed + " count " + what, x.count(what), y.count(what));
            for (int h = 0; h < 5; h++) due("season " + seed + " hold " + h, x.hold(h, 6) * 1000 + x.hold(h, 7), y.hold(h, 6) * 1000 + y.hold(h, 7));
            due("one call", x.undo(1), 0);
            due("as ahead", x.hold(4, 6), 0);
        }
    }

    // promises 18, 19, 20
    static void ways() {
        FootholdWall x = on(LADDER);
        int[][] way = {{0, 1, 2, 3}, {0, 1, 3}, {0, 3}};
        for (int g = 0; g < 3; g++) {
            due("way " + g, x.way(g, 0), way[g].length);
            for (int k = 0; k < 14; k++) due("way " + g + ", " + k, x.way(g, 10 + k), k < way[g].length ? way[g][k] : -1);
        }
        for (int what : new int[] {-1, 1, 9, 24, MIN, MAX}) due("way(0, " + what + ")", x.way(0, what), -2);
        due("way(3, 0)", x.way(3, 0), -2);
        due("way(-1, 0)", x.way(-1, 0), -2);
        long[] ways = {1, 2, 1};
        int[][] upTo = {{0, 0, 0, 1, 1, 1, 1}, {0, 0, 2, 4, 4, 4, 4}, {0, 1, 3, 5, 5, 5, 5}};
        for (int g = 0; g < 3; g++) {
            due("ways " + g, x.ways(g), ways[g]);
            for (int n = 1; n <= 7; n++) due("climbs " + g + ", " + n, x.climbs(g, n), upTo[g][n - 1]);
        }
        due("ways(3)", x.ways(3), -2);
        due("climbs(3, 0)", x.climbs(3, 0), -2);
        due("climbs(0, 0)", x.climbs(0, 0), -3);
        due("climbs(0, 8)", x.climbs(0, 8), -3);
        x.breaks(3);
        due("no way", x.way(0, 0), -1);
        due("no way, k", x.way(0, 10), -1);
        due("no way, what ahead of NONE", x.way(0, 5), -2);
        due("no ways", x.ways(0), 0);
        due("no climbs", x.climbs(2, 7), 0);
        // Among like ways the numbers along the way count, not the sum.
        x = on("hold 9 0 start;hold 8 0 start;hold 9 1;hold 8 1;hold 9 2 top;hold 8 2 top;guide leg 1;");
        due("first by numbers", x.way(0, 10) * 100 + x.way(0, 11) * 10 + x.way(0, 12), 24);
        due("two ways", x.ways(0), 2);
        // All 14 within reach of each other: 1 START, 1 TOP, twelve between.
        StringBuilder b = new StringBuilder("hold 0 0 start;hold 0 0 top;");
        for (int i = 0; i < 12; i++) b.append("hold 0 0;");
        x = on(b + "guide leg 0;");
        due("climbs of 7", x.climbs(0, 7), 1 + 12 + 132 + 1320 + 11880 + 95040);
        due("way", x.way(0, 0), 2);
        // A long way up.
        b = new StringBuilder("hold 0 0 start;");
        for (int i = 1; i < 13; i++) b.append("hold 0 ").append(i).append(";");
        x = on(b + "hold 0 13 top;guide leg 1;");
        due("14 holds", x.way(0, 0), 14);
        due("the last", x.way(0, 23), 13);
    }

    // promises 21, 22
    static void parties() {
        FootholdWall x = on(LADDER);
        int[] parties = {1, 2, 99};
        int[] shut = {2, 6, -1};
        for (int g = 0; g < 3; g++) {
            due("parties " + g, x.parties(g), parties[g]);
            due("shut, number " + g, x.shut(g, 0), g == 2 ? -1 : parties[g]);
            due("shut, which " + g, x.shut(g, 1), shut[g]);
        }
        due("parties(3)", x.parties(3), -2);
        due("shut(3, 0)", x.shut(3, 0), -2);
        due("shut(0, 2)", x.shut(0, 2), -2);
        due("shut(0, -1)", x.shut(0, -1), -2);
        due("shut(2, 2): -2 ahead of NONE", x.shut(2, 2), -2);
        x.breaks(0);
        due("no climb: parties", x.parties(0), 0);
        due("no climb: shut", x.shut(0, 0), 0);
        due("no climb: which", x.shut(0, 1), 0);
        // The second climb must push the first one aside: 0-1-4-5 is the first way, but 0-1-3-5 and 0-2-4-5 are two.
        x = on("hold 0 0 start;hold 1 1;hold 0 1;hold 2 2;hold 0 2;hold 0 3 top;guide leg 9;"
            + "step : up = 1 and [dx = 0 or dx = 1 or dx = 2];");
        due("two side by side", x.parties(0), 2);
        due("least as bits", x.shut(0, 1), 6);
        // A START in between is never used.
        x = on("hold 0 0 start;hold 0 1;hold 0 2 start;hold 0 3;hold 0 4 top;guide leg 1;");
        due("over a START", x.parties(0), 1);
        due("shut behind it", x.shut(0, 1), 8);
    }

    // promises 23, 26
    static void needed() {
        FootholdWall x = on(LADDER);
        due("needed 0", x.needed(0), 6);
        due("needed 1", x.needed(1), 0);
        due("needed 2", x.needed(2), 0);
        due("needed(3)", x.needed(3), -2);
        due("needers(1)", x.needers(1), 1);
        due("needers of START", x.needers(0), 0);
        due("needers of TOP", x.needers(3), 0);
        due("needers(4)", x.needers(4), -2);
        due("needers(-1)", x.needers(-1), -2);
        x.breaks(1);
        due("no climb: none needed", x.needed(0), 0);
        due("the other is needed", x.needed(1), 4);
        due("needers of it", x.needers(2), 2);
        due("needers of a broken one", x.needers(1), 0);
    }

    // promises 24, 25
    static void idle() {
        FootholdWall x = on(LADDER);
        for (int g = 0; g < 3; g++) due("idle " + g, x.idle(g), 0);
        due("idle(3)", x.idle(3), -2);
        due("able", x.able(), 7);
        x.breaks(1);
        due("no climb: all OPEN ones", x.idle(0), 13);
        due("able", x.able(), 6);
        // Hold 2 is come to, and a top is come to from it, but only over hold 1 both times.
        x = on("hold 0 0 start;hold 0 1;hold 1 1;hold 0 2 top;guide leg 1;");
        due("a blind alley", x.idle(0), 4);
        x = on("hold 0 0 start;hold 0 1;hold 1 1;hold 1 2;hold 0 2 top;guide leg 1;");
        due("a round", x.idle(0), 0);
        x = on("hold 0 0 start;hold 9 9 start;hold 0 1 top;hold 8 8 top;guide leg 1;");
        due("START, TOP without a climb", x.idle(0), 10);
    }

    // promise 28, 35
    static void meeting() {
        FootholdWall x = on(LADDER);
        int[][] together = {{0, 0, 1}, {0, 1, 1}, {1, 1, 1}};
        int[][] leaves = {{0, 0, 1}, {0, 1, 1}, {1, 1, 1}};
        for (int g = 0; g < 3; g++) for (int o = 0; o < 3; o++) {
            due("together " + g + ", " + o, x.together(g, o), together[g][o]);
            due("leaves " + g + ", " + o, x.leaves(g, o), leaves[g][o]);
        }
        due("together(0, 3)", x.together(0, 3), -2);
        due("together(-1, 0)", x.together(-1, 0), -2);
        due("leaves(3, 0)", x.leaves(3, 0), -2);
        due("leaves(0, -1)", x.leaves(0, -1), -2);
        x.breaks(1);
        due("no climb: together", x.together(0, 2), 0);
        due("leaves: no WAY", x.leaves(2, 0), -5);
        due("leaves: still", x.leaves(0, 2), 0);
        x = on(FORK);
        due("together on the fork", x.together(0, 1), 1);
        due("behind 0", x.leaves(1, 0), 0);
        due("behind 1", x.leaves(0, 1), 1);
        due("nothing was done", x.count(4), 0);
    }

    // promises 29, 30, 31
    static void legsAndDays() {
        FootholdWall x = on(LADDER);
        due("leastLeg", x.leastLeg(2), 1);
        due("leastLeg(3)", x.leastLeg(3), -2);
        due("opens", x.opens(0), 0);
        due("opens(-1)", x.opens(-1), -2);
        due("dearest 0", x.dearest(0), 1);
        due("dearest 1", x.dearest(1), 1);
        due("dearest 2", x.dearest(2), -1);
        due("dearest(3)", x.dearest(3), -2);
        x.breaks(1);
        due("leastLeg now", x.leastLeg(0), 2);
        due("opens never", x.opens(0), -1);
        due("dearest without a climb", x.dearest(0), -1);
        due("dearest is left", x.dearest(1), 2);
        due("leastLeg 99", on("hold 0 0 start;hold 50 49 top;guide leg 1;").leastLeg(0), 99);
        due("leastLeg 100", on("hold 0 0 start;hold 50 50 top;guide leg 1;").leastLeg(0), -1);
        due("leastLeg by a law", on("hold 0 0 start;hold 50 50 top;guide leg 1 weight 3;step : leg * weight > 20 and leg < 9;").leastLeg(0), 7);
        due("leastLeg by a law, none", on("hold 0 0 start;hold 50 50 top;guide leg 1 weight 2;step : leg * weight > 20 and leg < 9;").leastLeg(0), -1);
        due("leastLeg 0", on("hold 0 0 start top;guide leg 9;").leastLeg(0), 0);
        due("opens by ice", on("hold 0 0 start;hold 0 1 ice 40;hold 0 2 top;guide leg 1;day 3;").opens(0), 40);
        due("opens on the 200th day", on("hold 0 0 start top ice 202;guide leg 1;day 3;").opens(0), 202);
        due("opens on the 201st day", on("hold 0 0 start top ice 203;guide leg 1;day 3;").opens(0), -1);
        due("opens by a law", on("hold 0 0 start;hold 0 1 top;guide leg 1;step : day = 9 or day = 20;day 10;").opens(0), 20);
        x = on("hold 0 0 start;hold 0 1;hold 1 1;hold 0 2;hold 0 3 top;guide leg 9;step : up = 1;");
        due("dearest: not the first, but the one all need", x.dearest(0), 3);
    }

    // promises 32, 33
    static void whose() {
        FootholdWall x = on(LADDER);
        due("whose(0)", x.whose(0), 4);
        due("whose(2)", x.whose(2), 6);
        due("whose(4)", x.whose(4), 6);
        due("whose(6)", x.whose(6), 7);
        for (int set : new int[] {1, 8, 16, 7, 1 << 14, -1, MIN, MAX}) due("whose(" + set + ")", x.whose(set), -3);
        int[] order = {0, 1, 2, 3};
        due("order", x.order(1, 6, 0), 4);
        for (int k = 0; k < 14; k++) due("order " + k, x.order(1, 6, 10 + k), k < 4 ? order[k] : -1);
        due("order: none of WHOSE", x.order(0, 2, 0), -1);
        due("order: none of WHOSE, k", x.order(0, 2, 10), -1);
        due("order(3, 1, 0)", x.order(3, 1, 0), -2);
        for (int what : new int[] {-1, 1, 9, 24, MAX}) due("order(0, 1, " + what + ")", x.order(0, 1, what), -2);
        due("order(0, 1, 0)", x.order(0, 1, 0), -3);
        x.goes(0);
        due("USED or not", x.whose(6), 7);
        due("order of USED ones", x.order(0, 6, 13), 3);
        x.breaks(2);
        due("not THERE", x.whose(4), -3);
        due("not THERE", x.order(0, 4, 0), -3);
        due("order(0, 4, 1)", x.order(0, 4, 1), -2);
        // Another START joins both: 0-1-3-2-4 uses just 1 and 2; hold 5 has to stay aside.
        x = on("hold 0 0 start;hold 0 1;hold 0 3;hold 0 2 start;hold 0 4 top;hold 1 2;guide leg 1;");
        due("over a START", x.whose(6), 1);
        int[] joined = {0, 1, 3, 2, 4};
        for (int k = 0; k < 5; k++) due("over a START " + k, x.order(0, 6, 10 + k), joined[k]);
        due("without it", x.whose(2), 0);
        due("the fewest", x.order(0, 4, 0), 3);
        due("from the START that fits", x.order(0, 4, 10), 3);
        due("START and TOP in one", on("hold 0 0 start;hold 5 5 start top;guide leg 0;").order(0, 0, 10), 1);
    }

    // promise 34
    static void saved() {
        FootholdWall x = on(LADDER);
        due("saved 0", x.saved(0), 6);
        due("saved 1", x.saved(1), 2);
        due("saved 2", x.saved(2), 0);
        due("saved(3)", x.saved(3), -2);
        x.breaks(3);
        due("saved: no climb", x.saved(0), -1);
        // The first way is 0-1-4-5, which uses the set 18; 0-3-2-5 uses as few, the set 12.
        x = on("hold 5 0 start;hold 0 1;hold 10 2;hold 10 1;hold 0 2;hold 5 3 top;guide leg 1;step : up = 1 and dx < 6;");
        due("the first way", x.way(0, 11) * 10 + x.way(0, 12), 14);
        due("the least set", x.saved(0), 12);
    }

    // promise 36
    static void inTurn() {
        FootholdWall x = on(FORK);
        due("most", x.inTurn(3, 0), 2);
        due("the first", x.inTurn(3, 10), 1);
        due("the second", x.inTurn(3, 11), 0);
        due("not so many", x.inTurn(3, 12), -1);
        due("not so many", x.inTurn(3, 14), -1);
        due("one", x.inTurn(2, 0), 1);
        due("one", x.inTurn(2, 10), 1);
        due("nobody", x.inTurn(0, 0), 0);
        due("nobody", x.inTurn(0, 10), -1);
        for (int what : new int[] {-1, 1, 9, 15, MAX}) due("inTurn(3, " + what + ")", x.inTurn(3, what), -2);
        for (int set : new int[] {4, -1, MIN, 7}) due("inTurn(" + set + ", 9)", x.inTurn(set, 9), -3);
        due("nothing was done", x.count(4) + x.count(6), 0);
        x = on(LADDER);
        due("those who don't get up stand too", x.inTurn(7, 0), 2);
        due("first by numbers", x.inTurn(7, 10) * 100 + x.inTurn(7, 11) * 10 + x.inTurn(7, 12), 12);
    }

    // promises 37, 38
    static void trays() {
        FootholdWall x = new FootholdWall();
        due("write missing", x.write(0, 0, 1), -6);
        due("write(4)", x.write(4, 0, 1), -2);
        due("write(-1)", x.write(-1, 0, 1), -2);
        due("numbers(-1)", x.numbers(-1, 0, 1), -2);
        due("numbers(4)", x.numbers(4, 0, 1), -2);
        due("sort -1", x.numbers(0, -1, 1), -2);
        due("sort 4", x.numbers(0, 4, 41), -2);
        due("n -1", x.numbers(0, 0, -1), -3);
        due("n 41", x.numbers(0, 0, 41), -3);
        due("still missing", x.write(0, 0, 1), -6);
        due("none", x.numbers(3, 0, 0), 0);
        due("no such number", x.write(3, 0, 1), -7);
        long v = 0x123456789abcdef0L;
        long[] cut = {(byte) v, (short) v, (int) v, v};
        for (int sort = 0; sort < 4; sort++) {
            due("40 numbers", x.numbers(sort, sort, 40), 0);
            due("cut", x.write(sort, 39, v), cut[sort]);
            due("less 1", x.write(sort, 0, -1), -1);
            due("number -1", x.write(sort, -1, 1), -7);
            due("number 40", x.write(sort, 40, 1), -7);
        }
        due("200 in 8 bits", x.write(0, 1, 200), -56);
        due("128 in 8 bits", x.write(0, 1, 128), -128);
        due("127 in 8 bits", x.write(0, 1, 127), 127);
        due("40000 in 16 bits", x.write(1, 1, 40000), -25536);
        due("2^31 in 32 bits", x.write(2, 1, 1L << 31), MIN);
        // All 0 in place of another one: guide 0, hold 0.
        x = on("hold 0 0 start top;guide leg 1;");
        x.numbers(0, 2, 2);
        x.write(0, 0, 5);
        x.write(0, 1, 5);
        due("n 41 stays", x.numbers(0, 0, 41), -3);
        due("it stays", x.judge(0, 0), 0);
        due("in place of another", x.numbers(0, 2, 2), 0);
        due("all 0", x.judge(0, 0), -1);
        x.write(0, 1, 256);
        due("by its sort", x.judge(0, 1), 1);
        x.numbers(0, 0, 2);
        x.write(0, 1, 256);
        due("cut by its sort", x.judge(0, 1), 0);
    }

    // promise 39
    static void lists() {
        FootholdWall x = on(LADDER);
        due("lists missing", x.lists(0, 1), -6);
        due("lists(4, 1)", x.lists(4, 1), -2);
        due("lists(0, 3)", x.lists(0, 3), -2);
        x.numbers(0, 0, 4);
        due("lists", x.lists(0, 1), 4);
        due("as a TOLD CLIMB", x.judge(0, 0), -1);
        due("used", x.judge(0, 2), 1);
        due("by hold 1", x.climb(0), 1);
        due("USED by it", x.guide(1, 2), 2);
        x.numbers(1, 3, 2);
        due("as many as it has places", x.lists(1, 1), 2);
        due("the rest is wanting", x.judge(1, 0), 2);
        x.numbers(2, 1, 0);
        due("no places", x.lists(2, 1), 0);
        x.numbers(2, 1, 7);
        x.write(2, 6, 77);
        due("more places", x.lists(2, 1), 4);
        due("behind it 0 stays", x.judge(2, 0), 4);
        due("no way", x.lists(2, 0), -5);
        due("as it was", x.judge(2, 0), 4);
    }

    // promises 40, 41
    static void images() {
        FootholdWall x = on(LADDER + "day 2;");
        due("image(2)", x.image(2), -2);
        due("image(-1)", x.image(-1), -2);
        due("restore(2)", x.restore(2), -2);
        due("restore none", x.restore(0), -5);
        x.goes(0);
        x.days(3);
        x.newYear();
        x.days(4);
        x.goes(1);
        x.breaks(3);
        due("image", x.image(0), 0);
        due("undone still", x.count(6), 6);
        due("another wall", tell(x, "hold 1 1;day 7;"), 2);
        due("image of it", x.image(1), 0);
        x.numbers(0, 0, 3);
        x.days(1);
        feed(x, "day 8;");
        due("restore", x.restore(0), 0);
        due("holds", x.count(0), 4);
        due("guides", x.count(1), 3);
        due("DAY", x.count(2), 4);
        due("YEARS", x.count(3), 1);
        due("USED", x.guide(1, 2), 2);
        due("USED on", x.hold(1, 7), 4);
        due("nothing can be undone", x.count(6), 0);
        due("the tape stays", x.count(7), 20);
        due("LINES", x.count(8), 8);
        due("broken", x.hold(3, 8), 1);
        due("trays stay", x.write(0, 2, 1), 1);
        x.newYear();
        x.days(9);
        due("restore again", x.restore(0), 0);
        due("as it was", x.hold(1, 7) + x.count(2), 8);
        due("the other one", x.restore(1), 0);
        due("the other one", x.count(2), 7);
        due("no guides", x.able(), 0);
        x = new FootholdWall();
        due("an image of nothing", x.image(1), 0);
        tell(x, LADDER);
        due("restore nothing", x.restore(1), 0);
        due("nothing", x.count(0), 0);
    }

    // promise 42
    static void count() {
        FootholdWall x = on(LADDER + "hold 1 1 ice 2;used 1 by 0;broken 2;day 1;");
        x.newYear();
        x.goes(2);
        x.days(1);
        feed(x, "x");
        int[] due = {5, 3, 1, 1, 0, 3, 3, 20, 11, 1};
        for (int what = 0; what < 10; what++) due("count(" + what + ")", x.count(what), due[what]);
        for (int what : new int[] {-1, 10, MIN, MAX}) due("count(" + what + ")", x.count(what), -1);
        x.undo(3);
        due("USED", x.count(4), 1);
        due("OPEN", x.count(5), 2);
    }
}
