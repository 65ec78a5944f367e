import java.util.Arrays;

/**
 * No foothold twice: a wall told as a text, and climbs by which each foothold is used up for the year.
 * Sets of holds and of guides are kept as bits everywhere.
 */
public final class FootholdWall {
    public static final int NONE = -1;

    private static final int NO_SUCH = -2;
    private static final int CANNOT_BE = -3;
    private static final int NOT_NOW = -5;
    private static final int TRAY_MISSING = -6;
    private static final int NO_NUMBER = -7;
    private static final int NO_HOLD = -8;
    private static final int FAULTY = -30;

    private static final int HOLDS = 14;
    private static final int GUIDES = 5;
    private static final int TAPE = 900;
    private static final int UNDOABLE = 10;
    private static final int IMAGES = 2;
    private static final int TRAYS = 4;
    private static final int PLACES = 40;
    private static final int LEGS = 100;
    private static final int DAYS_AHEAD = 200;
    private static final int LONGEST_COUNTED = 7;
    private static final int ENDLESS = 99;
    /** From this number on a call's 'what' asks for the k-th of a row. */
    private static final int KTH = 10;

    private final byte[] tape = new byte[TAPE];
    private int tapeLength = 0;
    private final Reader reader = new Reader();
    private Wall wall = new Wall(0, 0, null);
    private final State state = new State();
    /** As all was ahead of the call that goes on; it changes places with one of past when that call did some. */
    private State before = new State();
    private final State[] past = new State[UNDOABLE];
    private int pastCount = 0;
    private int pastNext = 0;
    private final Wall[] imageWalls = new Wall[IMAGES];
    private final State[] imageStates = new State[IMAGES];
    private final Tray[] trays = new Tray[TRAYS];
    private final Rows[] rows = new Rows[GUIDES];
    private final Rows otherRows = new Rows(wall);
    private final Ways ways = new Ways();
    private final Cut cut = new Cut();
    private final Chains chains = new Chains();
    private final int[] turn = new int[GUIDES];
    private final int[] bestTurn = new int[GUIDES];
    private int bestUp = NONE;

    public FootholdWall() {
        for (int i = 0; i < UNDOABLE; i++) {
            past[i] = new State();
        }
        for (int i = 0; i < IMAGES; i++) {
            imageStates[i] = new State();
        }
        for (int i = 0; i < TRAYS; i++) {
            trays[i] = new Tray();
        }
        for (int g = 0; g < GUIDES; g++) {
            rows[g] = new Rows(wall);
        }
    }

    // ---- the wall

    public int feed(int a, int b, int c, int d, int e) {
        if (tapeLength + 20 > TAPE) {
            return NOT_NOW;
        }
        putOnTape(a);
        putOnTape(b);
        putOnTape(c);
        putOnTape(d);
        putOnTape(e);
        return tapeLength;
    }

    private void putOnTape(int four) {
        for (int shift = 24; shift >= 0 && tapeLength < TAPE; shift -= 8) {
            tape[tapeLength] = (byte) (four >> shift);
            tapeLength++;
        }
    }

    public int wall(int n) {
        if (n < 0 || n > tapeLength) {
            return CANNOT_BE;
        }
        tapeLength = 0;
        if (!reader.read(tape, n)) {
            return FAULTY - reader.tokens.fault;
        }
        wall = reader.made();
        state.take(reader.told);
        pastCount = 0;
        return wall.lines;
    }

    public int fault(int what) {
        if (what == 0) {
            return reader.tokens.fault;
        }
        return what == 1 ? reader.tokens.place : NONE;
    }

    public int hold(int h, int what) {
        if (!isHold(h)) {
            return NO_HOLD;
        }
        switch (what) {
            case 0: return wall.x[h];
            case 1: return wall.y[h];
            case 2: return wall.starts >> h & 1;
            case 3: return wall.tops >> h & 1;
            case 4: return thereOn(state.day) >> h & 1;
            case 5: return openOn(state.day) >> h & 1;
            case 6: return state.isUsed(h) ? state.by[h] : NONE;
            case 7: return state.isUsed(h) ? state.since[h] : NONE;
            case 8: return state.broken >> h & 1;
            case 9: return wall.ice[h];
            default: return NO_HOLD;
        }
    }

    public int guide(int g, int what) {
        if (!isGuide(g)) {
            return NO_SUCH;
        }
        switch (what) {
            case 0: return wall.leg[g];
            case 1: return wall.weight[g];
            case 2: return state.usedBy(g);
            default: return NO_SUCH;
        }
    }

    public int steps(int g, int from, int to) {
        if (!isGuide(g) || !isHold(from) || !isHold(to) || from == to) {
            return NO_SUCH;
        }
        return wall.mayStep(from, to, wall.leg[g], wall.weight[g], state.day) ? 1 : 0;
    }

    public int reach(int g) {
        return isGuide(g) ? rowsOf(g).reached(openNow()) : NO_SUCH;
    }

    private boolean isHold(int h) {
        return h >= 0 && h < wall.holds;
    }

    private boolean isGuide(int g) {
        return g >= 0 && g < wall.guides;
    }

    private int thereOn(int day) {
        return wall.comeBy(day) & ~state.broken;
    }

    private int openOn(int day) {
        return thereOn(day) & ~state.used;
    }

    private int openNow() {
        return openOn(state.day);
    }

    /** The steps of a guide (one that is) today. */
    private Rows rowsOf(int g) {
        Rows r = rows[g];
        r.aim(wall, wall.leg[g], wall.weight[g], state.day);
        return r;
    }

    // ---- climbs

    public int judge(int tray, int what) {
        if (!isTray(tray) || what < 0 || what > 2) {
            return NO_SUCH;
        }
        Tray told = trays[tray];
        if (told.isMissing()) {
            return TRAY_MISSING;
        }
        int verdict = verdictOn(told);
        if (what == 0) {
            return verdict == 0 ? NONE : verdict >> 3;
        }
        if (what == 1) {
            return verdict & 7;
        }
        return verdict == 0 ? Integer.bitCount(toldSet(told)) : 0;
    }

    public int climb(int tray) {
        if (!isTray(tray)) {
            return NO_SUCH;
        }
        Tray told = trays[tray];
        if (told.isMissing()) {
            return TRAY_MISSING;
        }
        if (verdictOn(told) != 0) {
            return NOT_NOW;
        }
        before.take(state);
        int used = state.use(toldSet(told), (int) told.at(0));
        remember();
        return used;
    }

    /** 0 if a told climb can be, else eight times the first place that can't be, and why. */
    private int verdictOn(Tray told) {
        long g = told.at(0);
        if (told.size == 0 || g < 0 || g >= wall.guides) {
            return 1;
        }
        Rows r = rowsOf((int) g);
        int open = openNow();
        int in = 0;
        int last = NONE;
        for (int place = 1; place < told.size; place++) {
            long number = told.at(place);
            if (number < 0 || number >= wall.holds) {
                return place * 8 + 1;
            }
            int h = (int) number;
            if (((open & ~in) >> h & 1) == 0) {
                return place * 8 + 2;
            }
            int allowed = last == NONE ? wall.starts : (wall.tops >> last & 1) != 0 ? 0 : r.stepped(last, 1 << h);
            if ((allowed >> h & 1) == 0) {
                return place * 8 + 3;
            }
            in |= 1 << h;
            last = h;
        }
        boolean up = last != NONE && (wall.tops >> last & 1) != 0;
        return up ? 0 : told.size * 8 + 4;
    }

    /** What a told climb that can be uses. */
    private int toldSet(Tray told) {
        int set = 0;
        for (int place = 1; place < told.size; place++) {
            set |= 1 << (int) told.at(place);
        }
        return set & wall.middles();
    }

    public int goes(int g) {
        if (!isGuide(g)) {
            return NO_SUCH;
        }
        before.take(state);
        int used = goUp(g);
        if (used == NONE) {
            return NOT_NOW;
        }
        remember();
        return used;
    }

    /** A guide goes by its way: how many holds are used by it, NONE if it has none. */
    private int goUp(int g) {
        if (ways.find(rowsOf(g), openNow()) == 0) {
            return NONE;
        }
        return state.use(ways.pathSet() & wall.middles(), g);
    }

    public int days(int n) {
        if (n < 1 || n > 99) {
            return CANNOT_BE;
        }
        before.take(state);
        state.day += n;
        remember();
        return state.day;
    }

    public int rain(int n) {
        if (n < 1 || n > HOLDS) {
            return CANNOT_BE;
        }
        before.take(state);
        int back = state.comeBack(n);
        if (back > 0) {
            remember();
        }
        return back;
    }

    public int breaks(int h) {
        if (!isHold(h)) {
            return NO_SUCH;
        }
        if ((state.broken >> h & 1) != 0) {
            return NOT_NOW;
        }
        before.take(state);
        int was = state.breakDown(h);
        remember();
        return was;
    }

    public int newYear() {
        before.take(state);
        int had = Integer.bitCount(state.used);
        state.used = 0;
        state.day = 0;
        state.years++;
        remember();
        return had;
    }

    public int undo(int n) {
        if (n < 1 || n > pastCount) {
            return CANNOT_BE;
        }
        pastNext = Math.floorMod(pastNext - n, UNDOABLE);
        pastCount -= n;
        state.take(past[pastNext]);
        return pastCount;
    }

    private void remember() {
        State eldest = past[pastNext];
        past[pastNext] = before;
        before = eldest;
        pastNext = (pastNext + 1) % UNDOABLE;
        pastCount = Math.min(pastCount + 1, UNDOABLE);
    }

    public int season(int seed, int times) {
        if (times < 1 || times > 40) {
            return CANNOT_BE;
        }
        if (wall.guides == 0) {
            return NOT_NOW;
        }
        before.take(state);
        int x = seed;
        int up = 0;
        boolean done = false;
        for (int i = 0; i < times; i++) {
            x = drawn(x);
            int kind = (x >>> 16) % 4;
            if (kind == 0) {
                state.day++;
                done = true;
            } else if (kind == 3) {
                done |= state.comeBack(1) > 0;
            } else {
                x = drawn(x);
                boolean got = goUp((x >>> 16) % wall.guides) != NONE;
                done |= got;
                up += got ? 1 : 0;
            }
        }
        if (done) {
            remember();
        }
        return up;
    }

    private static int drawn(int x) {
        return 1103515245 * x + 12345;
    }

    // ---- ways

    public int way(int g, int what) {
        if (!isGuide(g) || !asksRow(what, HOLDS)) {
            return NO_SUCH;
        }
        return ofRow(ways.path, ways.find(rowsOf(g), openNow()), what);
    }

    private static boolean asksRow(int what, int most) {
        return what == 0 || what >= KTH && what < KTH + most;
    }

    /** Of a row of so many holds: how many, or the k-th; NONE of an empty one. */
    private static int ofRow(int[] row, int length, int what) {
        if (length == 0) {
            return NONE;
        }
        if (what == 0) {
            return length;
        }
        int k = what - KTH;
        return k >= 0 && k < length && k < row.length ? row[k] : NONE;
    }

    public long ways(int g) {
        return isGuide(g) ? ways.howMany(rowsOf(g), openNow()) : NO_SUCH;
    }

    public long climbs(int g, int n) {
        if (!isGuide(g)) {
            return NO_SUCH;
        }
        if (n < 1 || n > LONGEST_COUNTED) {
            return CANNOT_BE;
        }
        return ways.climbsUpTo(rowsOf(g), openNow(), n);
    }

    public int parties(int g) {
        return isGuide(g) ? cut.fewest(rowsOf(g), openNow(), wall.middles()) : NO_SUCH;
    }

    public int shut(int g, int what) {
        if (!isGuide(g) || what < 0 || what > 1) {
            return NO_SUCH;
        }
        int set = cut.leastSet(rowsOf(g), openNow());
        return set == NONE || what == 1 ? set : Integer.bitCount(set);
    }

    public int needed(int g) {
        if (!isGuide(g)) {
            return NO_SUCH;
        }
        int set = 0;
        for (int h = 0; h < wall.holds; h++) {
            if (needs(g, h)) {
                set |= 1 << h;
            }
        }
        return set;
    }

    private boolean needs(int g, int h) {
        int open = openNow();
        if (((open & wall.middles()) >> h & 1) == 0) {
            return false;
        }
        Rows r = rowsOf(g);
        return r.getsUp(open) && !r.getsUp(open & ~(1 << h));
    }

    public int idle(int g) {
        if (!isGuide(g)) {
            return NO_SUCH;
        }
        int open = openNow();
        return open & ~chains.inClimbs(rowsOf(g), open);
    }

    public int able() {
        int set = 0;
        for (int g = 0; g < wall.guides; g++) {
            if (rowsOf(g).getsUp(openNow())) {
                set |= 1 << g;
            }
        }
        return set;
    }

    public int needers(int h) {
        if (!isHold(h)) {
            return NO_SUCH;
        }
        int set = 0;
        for (int g = 0; g < wall.guides; g++) {
            if (needs(g, h)) {
                set |= 1 << g;
            }
        }
        return set;
    }

    public int highest(int g) {
        if (!isGuide(g)) {
            return NO_SUCH;
        }
        int reached = rowsOf(g).reached(openNow());
        int most = NONE;
        for (int h = 0; h < wall.holds; h++) {
            if ((reached >> h & 1) != 0) {
                most = Math.max(most, wall.y[h]);
            }
        }
        return most;
    }

    public int together(int g, int other) {
        if (!isGuide(g) || !isGuide(other)) {
            return NO_SUCH;
        }
        Rows one = rowsOf(g);
        Rows two = rowsOf(other);
        int open = openNow();
        int shared = open & wall.middles();
        int ends = open & ~shared;
        if (!one.getsUp(open) || !two.getsUp(open)) {
            return 0;
        }
        int sets = 1 << Integer.bitCount(shared);
        int own = 0;
        for (int i = 0; i < sets; i++) {
            if (one.getsUp(ends | own) && two.getsUp(ends | shared & ~own)) {
                return 1;
            }
            own = own - shared & shared;
        }
        return 0;
    }

    // ---- legs, days

    public int leastLeg(int g) {
        if (!isGuide(g)) {
            return NO_SUCH;
        }
        int open = openNow();
        for (int leg = 0; leg < LEGS; leg++) {
            otherRows.aim(wall, leg, wall.weight[g], state.day);
            if (otherRows.getsUp(open)) {
                return leg;
            }
        }
        return NONE;
    }

    public int opens(int g) {
        if (!isGuide(g)) {
            return NO_SUCH;
        }
        int lastOpen = 0;
        for (int i = 0; i < DAYS_AHEAD; i++) {
            int day = state.day + i;
            int open = openOn(day);
            // A day like the one ahead of it needs no new look.
            if (i == 0 || open != lastOpen || wall.asksDay()) {
                otherRows.aim(wall, wall.leg[g], wall.weight[g], day);
                if (otherRows.getsUp(open)) {
                    return day;
                }
            }
            lastOpen = open;
        }
        return NONE;
    }

    public int dearest(int g) {
        if (!isGuide(g)) {
            return NO_SUCH;
        }
        Rows r = rowsOf(g);
        int open = openNow();
        int middles = open & wall.middles();
        int all = cut.fewest(r, open, middles);
        if (all == 0 || all == ENDLESS) {
            return NONE;
        }
        // One hold is in at most one of the parties' climbs: none lowers them by more than 1.
        for (int h = 0; h < wall.holds; h++) {
            if ((middles >> h & 1) != 0 && cut.fewest(r, open & ~(1 << h), middles) < all) {
                return h;
            }
        }
        return NONE;
    }

    // ---- whose, saved, in turn

    public int whose(int set) {
        int there = thereOn(state.day);
        if ((set & ~(there & wall.middles())) != 0) {
            return CANNOT_BE;
        }
        int guides = 0;
        for (int g = 0; g < wall.guides; g++) {
            if (chains.fewest(rowsOf(g), set, there) != NONE) {
                guides |= 1 << g;
            }
        }
        return guides;
    }

    public int order(int g, int set, int what) {
        if (!isGuide(g) || !asksRow(what, HOLDS)) {
            return NO_SUCH;
        }
        int there = thereOn(state.day);
        if ((set & ~(there & wall.middles())) != 0) {
            return CANNOT_BE;
        }
        return ofRow(chains.path, chains.first(rowsOf(g), set, there), what);
    }

    public int saved(int g) {
        return isGuide(g) ? ways.leastUsed(rowsOf(g), openNow()) : NO_SUCH;
    }

    public int leaves(int g, int other) {
        if (!isGuide(g) || !isGuide(other)) {
            return NO_SUCH;
        }
        int open = openNow();
        if (ways.find(rowsOf(other), open) == 0) {
            return NOT_NOW;
        }
        int left = open & ~(ways.pathSet() & wall.middles());
        return rowsOf(g).getsUp(left) ? 1 : 0;
    }

    public int inTurn(int set, int what) {
        if (set >>> wall.guides != 0) {
            return CANNOT_BE;
        }
        if (!asksRow(what, GUIDES)) {
            return NO_SUCH;
        }
        bestUp = NONE;
        takeTurns(0, set, openNow(), 0);
        if (what == 0) {
            return bestUp;
        }
        return ofRow(bestTurn, Integer.bitCount(set), what);
    }

    /** Tries all orders of those left, the first by numbers first, so that only a better one strikes it. */
    private void takeTurns(int place, int left, int open, int up) {
        if (up + Integer.bitCount(left) <= bestUp) {
            return;
        }
        if (left == 0 || place >= GUIDES) {
            bestUp = up;
            System.arraycopy(turn, 0, bestTurn, 0, GUIDES);
            return;
        }
        for (int g = 0; g < wall.guides; g++) {
            if ((left >> g & 1) != 0) {
                turn[place] = g;
                boolean got = ways.find(rowsOf(g), open) > 0;
                int still = got ? open & ~(ways.pathSet() & wall.middles()) : open;
                takeTurns(place + 1, left & ~(1 << g), still, up + (got ? 1 : 0));
            }
        }
    }

    // ---- trays, images

    private static boolean isTray(int tray) {
        return tray >= 0 && tray < TRAYS;
    }

    public int numbers(int tray, int sort, int n) {
        if (!isTray(tray) || sort < 0 || sort > 3) {
            return NO_SUCH;
        }
        if (n < 0 || n > PLACES) {
            return CANNOT_BE;
        }
        trays[tray].lay(sort, n);
        return 0;
    }

    public long write(int tray, int i, long v) {
        if (!isTray(tray)) {
            return NO_SUCH;
        }
        Tray t = trays[tray];
        if (t.isMissing()) {
            return TRAY_MISSING;
        }
        if (i < 0 || i >= t.size) {
            return NO_NUMBER;
        }
        return t.put(i, v);
    }

    public int lists(int tray, int g) {
        if (!isTray(tray) || !isGuide(g)) {
            return NO_SUCH;
        }
        Tray t = trays[tray];
        if (t.isMissing()) {
            return TRAY_MISSING;
        }
        int length = ways.find(rowsOf(g), openNow());
        if (length == 0) {
            return NOT_NOW;
        }
        int fit = Math.min(length + 1, t.size);
        for (int i = 0; i < fit; i++) {
            t.put(i, i == 0 ? g : ways.path[i - 1]);
        }
        return fit;
    }

    private static boolean isImage(int i) {
        return i >= 0 && i < IMAGES;
    }

    public int image(int i) {
        if (!isImage(i)) {
            return NO_SUCH;
        }
        imageWalls[i] = wall;
        imageStates[i].take(state);
        return 0;
    }

    public int restore(int i) {
        if (!isImage(i)) {
            return NO_SUCH;
        }
        if (imageWalls[i] == null) {
            return NOT_NOW;
        }
        wall = imageWalls[i];
        state.take(imageStates[i]);
        pastCount = 0;
        return 0;
    }

    public int count(int what) {
        switch (what) {
            case 0: return wall.holds;
            case 1: return wall.guides;
            case 2: return state.day;
            case 3: return state.years;
            case 4: return Integer.bitCount(state.used);
            case 5: return Integer.bitCount(openNow());
            case 6: return pastCount;
            case 7: return tapeLength;
            case 8: return wall.lines;
            case 9: return Integer.bitCount(state.broken);
            default: return NONE;
        }
    }

    /** The tokens of a text, one at a time, and the first fault along it. */
    private static final class Tokens {
        static final int END = 0;
        static final int WORD = 1;
        static final int NUMBER = 2;
        static final int SIGN = 3;
        static final int NO_TOKEN = 4;
        static final int CANNOT_STAND = 2;
        static final int OUT_OF_BOUNDS = 3;
        static final int TOO_MANY = 4;
        private static final String SIGNS = ";:+-*()[]=<>";

        private byte[] text = new byte[0];
        private int length = 0;
        private int start = 0;
        private int end = 0;
        int kind = END;
        /** Of a number its value, of a sign its byte. */
        int value = 0;
        int fault = 0;
        int place = NONE;

        void begin(byte[] of, int n) {
            text = of;
            length = Math.min(n, of.length);
            end = 0;
            fault = 0;
            place = NONE;
            go();
        }

        /** On to the next token. */
        void go() {
            start = end;
            while (start < length && (text[start] == 10 || text[start] == 32)) {
                start++;
            }
            end = start;
            if (start >= length) {
                kind = END;
            } else if (isLetter(text[start])) {
                kind = WORD;
                while (end < length && isLetter(text[end])) {
                    end++;
                }
            } else if (isDigit(text[start])) {
                value = 0;
                while (end < length && isDigit(text[end])) {
                    value = value * 10 + (text[end] - '0');
                    end++;
                }
                kind = end - start <= 3 ? NUMBER : NO_TOKEN;
            } else {
                value = text[start] & 255;
                kind = SIGNS.indexOf((char) value) >= 0 ? SIGN : NO_TOKEN;
                end++;
            }
        }

        private static boolean isLetter(int sign) {
            return sign >= 'a' && sign <= 'z';
        }

        private static boolean isDigit(int sign) {
            return sign >= '0' && sign <= '9';
        }

        boolean isWord(String word) {
            if (kind != WORD || end - start != word.length()) {
                return false;
            }
            for (int i = 0; i < word.length(); i++) {
                if (text[start + i] != word.charAt(i)) {
                    return false;
                }
            }
            return true;
        }

        boolean isSign(char sign) {
            return kind == SIGN && value == sign;
        }

        /** The fault of the token that stands here; false, so that a reading method can answer by it. */
        boolean refuse(int why) {
            fault = kind == NO_TOKEN ? 1 : why;
            place = start;
            return false;
        }

        boolean takeWord(String word) {
            if (!isWord(word)) {
                return refuse(CANNOT_STAND);
            }
            go();
            return true;
        }

        boolean takeSign(char sign) {
            if (!isSign(sign)) {
                return refuse(CANNOT_STAND);
            }
            go();
            return true;
        }

        /** A number from 0 to most, NONE with a fault. */
        int takeNumber(int most) {
            if (kind != NUMBER || value > most) {
                refuse(kind == NUMBER ? OUT_OF_BOUNDS : CANNOT_STAND);
                return NONE;
            }
            int number = value;
            go();
            return number;
        }
    }

    /** Reads a TRUTH into the code of a law: operands ahead of what is done with them. */
    private static final class LawReader {
        private static final int DEEPEST = 6;

        private final Tokens tokens;
        private final int[] code = new int[TAPE];
        private int length = 0;

        LawReader(Tokens t) {
            tokens = t;
        }

        /** Whether a TRUTH without a fault stands here. */
        boolean read() {
            length = 0;
            return readTruth(0);
        }

        Law made() {
            return new Law(Arrays.copyOf(code, length));
        }

        private void put(int kind, int operand) {
            if (length < TAPE) {
                code[length] = kind | operand << Law.KIND_BITS;
                length++;
            }
        }

        /** The and, or at a place leads right here, if the truth ahead of it decides. */
        private void aimSkip(int at) {
            if (at >= 0 && at < TAPE) {
                code[at] = code[at] & Law.KIND_MASK | length << Law.KIND_BITS;
            }
        }

        private boolean readTruth(int depth) {
            boolean fine = readBoth(depth);
            for (int i = 0; i < TAPE && fine && tokens.isWord("or"); i++) {
                tokens.go();
                int skip = length;
                put(Law.OR, 0);
                fine = readBoth(depth);
                aimSkip(skip);
            }
            return fine;
        }

        private boolean readBoth(int depth) {
            boolean fine = readUnit(depth);
            for (int i = 0; i < TAPE && fine && tokens.isWord("and"); i++) {
                tokens.go();
                int skip = length;
                put(Law.AND, 0);
                fine = readUnit(depth);
                aimSkip(skip);
            }
            return fine;
        }

        private boolean readUnit(int depth) {
            if (tokens.isWord("not")) {
                if (!enter(depth) || !readUnit(depth + 1)) {
                    return false;
                }
                put(Law.NOT, 0);
                return true;
            }
            if (tokens.isSign('[')) {
                return enter(depth) && readTruth(depth + 1) && tokens.takeSign(']');
            }
            if (!readSum(depth)) {
                return false;
            }
            int kind = tokens.isSign('=') ? Law.EQUAL : tokens.isSign('<') ? Law.LESS : Law.MORE;
            if (kind == Law.MORE && !tokens.isSign('>')) {
                return tokens.refuse(Tokens.CANNOT_STAND);
            }
            tokens.go();
            if (!readSum(depth)) {
                return false;
            }
            put(kind, 0);
            return true;
        }

        /** Past a not [ ( that stands within so many. */
        private boolean enter(int depth) {
            if (depth >= DEEPEST) {
                return tokens.refuse(Tokens.TOO_MANY);
            }
            tokens.go();
            return true;
        }

        private boolean readSum(int depth) {
            boolean fine = readTerm(depth);
            for (int i = 0; i < TAPE && fine && (tokens.isSign('+') || tokens.isSign('-')); i++) {
                int kind = tokens.isSign('+') ? Law.PLUS : Law.MINUS;
                tokens.go();
                fine = readTerm(depth);
                put(kind, 0);
            }
            return fine;
        }

        private boolean readTerm(int depth) {
            boolean fine = readAtom(depth);
            for (int i = 0; i < TAPE && fine && tokens.isSign('*'); i++) {
                tokens.go();
                fine = readAtom(depth);
                put(Law.TIMES, 0);
            }
            return fine;
        }

        private boolean readAtom(int depth) {
            if (tokens.isSign('(')) {
                return enter(depth) && readSum(depth + 1) && tokens.takeSign(')');
            }
            if (tokens.kind == Tokens.NUMBER) {
                put(Law.NUMBER, tokens.value);
                tokens.go();
                return true;
            }
            int fact = factHere();
            if (fact == NONE) {
                return tokens.refuse(Tokens.CANNOT_STAND);
            }
            put(Law.FACT, fact);
            tokens.go();
            return true;
        }

        private int factHere() {
            if (tokens.isWord("dx")) {
                return Law.DX;
            }
            if (tokens.isWord("up")) {
                return Law.UP;
            }
            if (tokens.isWord("far")) {
                return Law.FAR;
            }
            if (tokens.isWord("leg")) {
                return Law.LEG;
            }
            if (tokens.isWord("weight")) {
                return Law.WEIGHT;
            }
            if (tokens.isWord("wide")) {
                return Law.WIDE;
            }
            return tokens.isWord("day") ? Law.DAY : NONE;
        }
    }

    /** A law of a step: a code whose operands stand ahead of what is done with them. */
    private static final class Law {
        static final int KIND_BITS = 4;
        static final int KIND_MASK = 15;
        static final int NUMBER = 0;
        static final int FACT = 1;
        static final int NOT = 2;
        static final int AND = 3;
        static final int OR = 4;
        static final int PLUS = 5;
        static final int MINUS = 6;
        static final int TIMES = 7;
        static final int EQUAL = 8;
        static final int LESS = 9;
        static final int MORE = 10;
        static final int DX = 0;
        static final int UP = 1;
        static final int FAR = 2;
        static final int LEG = 3;
        static final int WEIGHT = 4;
        static final int WIDE = 5;
        static final int DAY = 6;
        private static final int FACT_MASK = 7;
        private static final int FARTHEST = 1000000;
        /** Within each of at most seven levels of ( no more than three operands wait at once. */
        private static final int WAITING = 24;

        private final int[] code;
        /** Told anew for each step, by DX to DAY. */
        final int[] facts = new int[FACT_MASK + 1];
        private final int[] stack = new int[WAITING];

        Law(int[] c) {
            code = c;
        }

        boolean asks(int fact) {
            int asked = FACT | fact << KIND_BITS;
            for (int i = 0; i < code.length; i++) {
                if (code[i] == asked) {
                    return true;
                }
            }
            return false;
        }

        /** Whether it holds by the facts. */
        boolean holds() {
            int top = 0;
            for (int i = 0; i < code.length; i++) {
                int kind = code[i] & KIND_MASK;
                int operand = code[i] >> KIND_BITS;
                if (kind <= FACT) {
                    if (top >= WAITING) {
                        return false;
                    }
                    stack[top] = kind == NUMBER ? operand : facts[operand & FACT_MASK];
                    top++;
                } else if (top < (kind <= OR ? 1 : 2)) {
                    return false;
                } else if (kind > OR) {
                    top--;
                    stack[top - 1] = joined(kind, stack[top - 1], stack[top]);
                } else if (kind == NOT) {
                    stack[top - 1] = 1 - stack[top - 1];
                } else if (stack[top - 1] != 0 == (kind == OR)) {
                    i = Math.max(i, operand - 1);
                } else {
                    top--;
                }
            }
            return top > 0 && stack[top - 1] != 0;
        }

        private static int joined(int kind, int left, int right) {
            long value = 0;
            switch (kind) {
                case PLUS: value = (long) left + right; break;
                case MINUS: value = (long) left - right; break;
                case TIMES: value = (long) left * right; break;
                case EQUAL: return left == right ? 1 : 0;
                case LESS: return left < right ? 1 : 0;
                default: return left > right ? 1 : 0;
            }
            return value > FARTHEST ? FARTHEST : value < -FARTHEST ? -FARTHEST : (int) value;
        }
    }

    /** Reads the text of a wall, line by line. */
    private static final class Reader {
        private static final int MOST_PLACE = 99;
        private static final int MOST_DAY = 999;

        final Tokens tokens = new Tokens();
        private final LawReader lawReader = new LawReader(tokens);
        /** The lines told so far. */
        private final Wall draft = new Wall(HOLDS, GUIDES, null);
        private boolean lawTold = false;
        /** What is used, broken at first, and the first day. */
        final State told = new State();

        /** Whether the text has no fault. */
        boolean read(byte[] text, int n) {
            draft.forget();
            told.forget();
            lawTold = false;
            tokens.begin(text, n);
            for (int i = 0; i < TAPE && tokens.kind != Tokens.END; i++) {
                if (!readLine() || !tokens.takeSign(';')) {
                    return false;
                }
                draft.lines++;
            }
            told.useSinceToday();
            return true;
        }

        Wall made() {
            return draft.cutToSize(lawTold ? lawReader.made() : null);
        }

        private boolean readLine() {
            if (tokens.isWord("hold")) {
                return readHold();
            }
            if (tokens.isWord("guide")) {
                return readGuide();
            }
            if (tokens.isWord("step")) {
                tokens.go();
                lawTold = true;
                return tokens.takeSign(':') && lawReader.read();
            }
            if (tokens.isWord("used")) {
                return readUsed();
            }
            if (tokens.isWord("broken")) {
                return readBroken();
            }
            if (tokens.isWord("day")) {
                tokens.go();
                told.day = tokens.takeNumber(MOST_DAY);
                return told.day != NONE;
            }
            return tokens.refuse(Tokens.CANNOT_STAND);
        }

        private boolean readHold() {
            int h = draft.holds;
            if (h >= HOLDS) {
                return tokens.refuse(Tokens.TOO_MANY);
            }
            tokens.go();
            int x = tokens.takeNumber(MOST_PLACE);
            if (x == NONE) {
                return false;
            }
            int y = tokens.takeNumber(MOST_PLACE);
            if (y == NONE) {
                return false;
            }
            draft.x[h] = x;
            draft.y[h] = y;
            draft.ice[h] = 0;
            draft.holds++;
            for (int i = 0; i < TAPE && tokens.kind == Tokens.WORD; i++) {
                if (!readFlag(h)) {
                    return false;
                }
            }
            return true;
        }

        private boolean readFlag(int h) {
            int bit = 1 << h;
            if (tokens.isWord("ice")) {
                tokens.go();
                draft.ice[h] = tokens.takeNumber(MOST_DAY);
                return draft.ice[h] != NONE;
            }
            if (tokens.isWord("start")) {
                draft.starts |= bit;
            } else if (tokens.isWord("top")) {
                draft.tops |= bit;
            } else if (tokens.isWord("wide")) {
                draft.wides |= bit;
            } else {
                return tokens.refuse(Tokens.CANNOT_STAND);
            }
            tokens.go();
            return true;
        }

        private boolean readGuide() {
            int g = draft.guides;
            if (g >= GUIDES) {
                return tokens.refuse(Tokens.TOO_MANY);
            }
            tokens.go();
            if (!tokens.takeWord("leg")) {
                return false;
            }
            draft.leg[g] = tokens.takeNumber(MOST_PLACE);
            draft.weight[g] = 0;
            if (draft.leg[g] != NONE && tokens.isWord("weight")) {
                tokens.go();
                draft.weight[g] = tokens.takeNumber(MOST_PLACE);
            }
            draft.guides++;
            return draft.leg[g] != NONE && draft.weight[g] != NONE;
        }

        private boolean readUsed() {
            tokens.go();
            if (tokens.kind == Tokens.NUMBER && tokens.value < draft.holds
                    && (draft.middles() >> tokens.value & 1) == 0) {
                return tokens.refuse(Tokens.OUT_OF_BOUNDS);
            }
            int h = tokens.takeNumber(draft.holds - 1);
            if (h == NONE || !tokens.takeWord("by")) {
                return false;
            }
            int g = tokens.takeNumber(draft.guides - 1);
            if (g == NONE) {
                return false;
            }
            told.use(1 << h, g);
            return true;
        }

        private boolean readBroken() {
            tokens.go();
            int h = tokens.takeNumber(draft.holds - 1);
            if (h == NONE) {
                return false;
            }
            told.breakDown(h);
            return true;
        }
    }

    /** What a text tells that no call changes. */
    private static final class Wall {
        int holds;
        int guides;
        int lines = 0;
        int starts = 0;
        int tops = 0;
        int wides = 0;
        final int[] x;
        final int[] y;
        final int[] ice;
        final int[] leg;
        final int[] weight;
        /** Null: a step is as far as the leg at most. */
        private final Law law;
        private final boolean dayAsked;
        private final boolean legAsked;

        Wall(int h, int g, Law l) {
            holds = Math.max(0, h);
            guides = Math.max(0, g);
            x = new int[holds];
            y = new int[holds];
            ice = new int[holds];
            leg = new int[guides];
            weight = new int[guides];
            law = l;
            dayAsked = l != null && l.asks(Law.DAY);
            legAsked = l == null || l.asks(Law.LEG);
        }

        /** The arrays stay, to be written anew. */
        void forget() {
            holds = 0;
            guides = 0;
            lines = 0;
            starts = 0;
            tops = 0;
            wides = 0;
        }

        Wall cutToSize(Law l) {
            Wall w = new Wall(holds, guides, l);
            w.lines = lines;
            w.starts = starts;
            w.tops = tops;
            w.wides = wides;
            System.arraycopy(x, 0, w.x, 0, holds);
            System.arraycopy(y, 0, w.y, 0, holds);
            System.arraycopy(ice, 0, w.ice, 0, holds);
            System.arraycopy(leg, 0, w.leg, 0, guides);
            System.arraycopy(weight, 0, w.weight, 0, guides);
            return w;
        }

        boolean asksDay() {
            return dayAsked;
        }

        boolean asksLeg() {
            return legAsked;
        }

        /** Holds that can be used. */
        int middles() {
            return (1 << holds) - 1 & ~starts & ~tops;
        }

        /** Holds whose ice's day has come. */
        int comeBy(int day) {
            int set = 0;
            for (int h = 0; h < holds; h++) {
                if (ice[h] <= day) {
                    set |= 1 << h;
                }
            }
            return set;
        }

        boolean mayStep(int from, int to, int ownLeg, int ownWeight, int day) {
            int dx = Math.abs(x[to] - x[from]);
            int up = y[to] - y[from];
            int far = dx + Math.abs(up);
            if (law == null) {
                return far <= ownLeg;
            }
            int[] facts = law.facts;
            facts[Law.DX] = dx;
            facts[Law.UP] = up;
            facts[Law.FAR] = far;
            facts[Law.LEG] = ownLeg;
            facts[Law.WEIGHT] = ownWeight;
            facts[Law.WIDE] = wides >> to & 1;
            facts[Law.DAY] = day;
            return law.holds();
        }
    }

    /** What calls change and undoing brings back. */
    private static final class State {
        int used = 0;
        int broken = 0;
        int day = 0;
        int years = 0;
        /** By whom, since which day; of used holds alone. */
        final int[] by = new int[HOLDS];
        final int[] since = new int[HOLDS];

        void take(State other) {
            used = other.used;
            broken = other.broken;
            day = other.day;
            years = other.years;
            System.arraycopy(other.by, 0, by, 0, HOLDS);
            System.arraycopy(other.since, 0, since, 0, HOLDS);
        }

        void forget() {
            used = 0;
            broken = 0;
            day = 0;
            years = 0;
        }

        boolean isUsed(int h) {
            return (used >> h & 1) != 0;
        }

        int usedBy(int g) {
            int set = 0;
            for (int h = 0; h < HOLDS; h++) {
                if (isUsed(h) && by[h] == g) {
                    set |= 1 << h;
                }
            }
            return set;
        }

        /** A set is used by a guide today: how many. */
        int use(int set, int g) {
            for (int h = 0; h < HOLDS; h++) {
                if ((set >> h & 1) != 0) {
                    by[h] = g;
                    since[h] = day;
                }
            }
            used |= set;
            return Integer.bitCount(set);
        }

        /** A hold breaks, and so is used no more: 1 if it was used. */
        int breakDown(int h) {
            int was = used >> h & 1;
            used &= ~(1 << h);
            broken |= 1 << h;
            return was;
        }

        /** A text's day may stand behind what is used on it. */
        void useSinceToday() {
            for (int h = 0; h < HOLDS; h++) {
                since[h] = day;
            }
        }

        /** Rain of n: how many came back. */
        int comeBack(int n) {
            int back = 0;
            for (int i = 0; i < n && used != 0; i++) {
                int eldest = NONE;
                for (int h = 0; h < HOLDS; h++) {
                    if (isUsed(h) && (eldest == NONE || since[h] < since[eldest])) {
                        eldest = h;
                    }
                }
                used &= ~(1 << eldest);
                back++;
            }
            return back;
        }
    }

    /** A row of numbers of one sort. */
    private static final class Tray {
        private final long[] numbers = new long[PLACES];
        private int sort = 0;
        /** NONE: it is missing. */
        int size = NONE;

        boolean isMissing() {
            return size == NONE;
        }

        void lay(int s, int n) {
            sort = s;
            size = n;
            Arrays.fill(numbers, 0L);
        }

        long at(int i) {
            return i >= 0 && i < PLACES ? numbers[i] : NONE;
        }

        long put(int i, long v) {
            if (i < 0 || i >= PLACES) {
                return NONE;
            }
            switch (sort) {
                case 0: numbers[i] = (byte) v; break;
                case 1: numbers[i] = (short) v; break;
                case 2: numbers[i] = (int) v; break;
                default: numbers[i] = v; break;
            }
            return numbers[i];
        }
    }

    /** Where a guide may step to from each hold on a day; the law is asked once for each step, and when it is wanted. */
    private static final class Rows {
        Wall wall;
        private int leg = 0;
        private int weight = 0;
        private int day = 0;
        private final int[] asked = new int[HOLDS];
        private final int[] row = new int[HOLDS];

        Rows(Wall w) {
            wall = w;
        }

        void aim(Wall onWall, int ownLeg, int ownWeight, int onDay) {
            boolean same = onWall == wall && ownWeight == weight
                && (ownLeg == leg || !onWall.asksLeg()) && (onDay == day || !onWall.asksDay());
            if (!same) {
                for (int h = 0; h < HOLDS; h++) {
                    asked[h] = 1 << h;
                    row[h] = 0;
                }
            }
            wall = onWall;
            leg = ownLeg;
            weight = ownWeight;
            day = onDay;
        }

        /** Those of a set that may be stepped to from a hold. */
        int stepped(int from, int set) {
            if (from < 0 || from >= wall.holds) {
                return 0;
            }
            int unknown = set & ~asked[from];
            for (int to = 0; to < wall.holds && unknown != 0; to++) {
                if ((unknown >> to & 1) != 0 && wall.mayStep(from, to, leg, weight, day)) {
                    row[from] |= 1 << to;
                }
            }
            asked[from] |= unknown;
            return row[from] & set;
        }

        /** What is come to from a set within another one, gone on from some alone, until a goal is come to. */
        int spread(int from, int through, int within, int goal) {
            int seen = from;
            int todo = from & through;
            for (int i = 0; i < HOLDS && todo != 0 && (seen & goal) == 0; i++) {
                int fresh = stepped(Integer.numberOfTrailingZeros(todo), within & ~seen);
                seen |= fresh;
                todo = todo & todo - 1 | fresh & through;
            }
            return seen;
        }

        int reached(int open) {
            return spread(wall.starts & open, open & ~wall.tops, open, 0);
        }

        boolean getsUp(int open) {
            return (spread(wall.starts & open, open & ~wall.tops, open, wall.tops) & wall.tops) != 0;
        }
    }

    /** The shortest climbs of a guide, and how many climbs it has. */
    private static final class Ways {
        /** The holds that can stand at each place of a shortest climb. */
        private final int[] layer = new int[HOLDS];
        final int[] path = new int[HOLDS];
        private int length = 0;
        private final long[] numberFrom = new long[HOLDS];
        private final int[] leastFrom = new int[HOLDS];
        /** From which holds each top can be stepped to. */
        private final int[] into = new int[HOLDS];
        private int tops = 0;

        /** The first of the shortest climbs comes into path: how many holds, 0 if there is none. */
        int find(Rows r, int open) {
            length = findLayers(r, open);
            keepLeading(r, length);
            int allowed = length > 0 ? layer[0] : 0;
            for (int i = 0; i < length; i++) {
                int h = Integer.numberOfTrailingZeros(allowed);
                path[i] = h;
                allowed = i + 1 < length ? r.stepped(h, layer[i + 1]) : 0;
            }
            return length;
        }

        int pathSet() {
            int set = 0;
            for (int i = 0; i < length; i++) {
                set |= 1 << path[i];
            }
            return set;
        }

        /** How many layers there are, the last one of tops; 0 if no top can be come to. */
        private int findLayers(Rows r, int open) {
            int seen = r.wall.starts & open;
            layer[0] = seen;
            for (int i = 0; i < HOLDS; i++) {
                if ((layer[i] & r.wall.tops) != 0) {
                    layer[i] &= r.wall.tops;
                    return i + 1;
                }
                int next = 0;
                for (int h = 0; h < HOLDS; h++) {
                    if ((layer[i] >> h & 1) != 0) {
                        next |= r.stepped(h, open & ~seen);
                    }
                }
                if (next == 0 || i + 1 >= HOLDS) {
                    return 0;
                }
                seen |= next;
                layer[i + 1] = next;
            }
            return 0;
        }

        /** Ahead of the last of so many layers only those holds stay from which the next one can be stepped to. */
        private void keepLeading(Rows r, int layers) {
            for (int i = layers - 2; i >= 0; i--) {
                for (int h = 0; h < HOLDS; h++) {
                    if ((layer[i] >> h & 1) != 0 && r.stepped(h, layer[i + 1]) == 0) {
                        layer[i] &= ~(1 << h);
                    }
                }
            }
        }

        long howMany(Rows r, int open) {
            int n = findLayers(r, open);
            for (int i = n - 1; i >= 0; i--) {
                for (int h = 0; h < HOLDS; h++) {
                    if ((layer[i] >> h & 1) != 0) {
                        numberFrom[h] = i == n - 1 ? 1 : numberFromAll(r.stepped(h, layer[i + 1]));
                    }
                }
            }
            return n == 0 ? 0 : numberFromAll(layer[0]);
        }

        private long numberFromAll(int set) {
            long sum = 0;
            for (int h = 0; h < HOLDS; h++) {
                if ((set >> h & 1) != 0) {
                    sum += numberFrom[h];
                }
            }
            return sum;
        }

        /**
         * The least set that a climb with the fewest used ones uses, NONE without a climb. Such a climb is a
         * shortest one behind its last start; and as no hold stands in two layers, the least set behind a hold
         * is part of the least set through it.
         */
        int leastUsed(Rows r, int open) {
            int n = findLayers(r, open);
            keepLeading(r, n);
            int middles = r.wall.middles();
            for (int i = n - 1; i >= 0; i--) {
                for (int h = 0; h < HOLDS; h++) {
                    if ((layer[i] >> h & 1) != 0) {
                        int rest = i == n - 1 ? 0 : leastFromAny(r.stepped(h, layer[i + 1]));
                        leastFrom[h] = rest | middles & 1 << h;
                    }
                }
            }
            return n == 0 ? NONE : leastFromAny(layer[0]);
        }

        private int leastFromAny(int set) {
            int least = 1 << HOLDS;
            for (int h = 0; h < HOLDS; h++) {
                if ((set >> h & 1) != 0) {
                    least = Math.min(least, leastFrom[h]);
                }
            }
            return least;
        }

        /** How many climbs have n holds at most. */
        long climbsUpTo(Rows r, int open, int n) {
            int ends = open & r.wall.tops;
            int starts = open & r.wall.starts;
            int free = open & ~ends;
            tops = 0;
            for (int t = 0; t < HOLDS; t++) {
                if ((ends >> t & 1) != 0) {
                    into[tops] = leadingTo(r, free, t);
                    tops++;
                }
            }
            long sum = Integer.bitCount(starts & ends);
            for (int s = 0; s < HOLDS; s++) {
                if (((starts & free) >> s & 1) != 0) {
                    sum += climbsOn(r, s, free & ~(1 << s), n - 1);
                }
            }
            return sum;
        }

        private static int leadingTo(Rows r, int among, int to) {
            int set = 0;
            for (int h = 0; h < HOLDS; h++) {
                if ((among >> h & 1) != 0 && r.stepped(h, 1 << to) != 0) {
                    set |= 1 << h;
                }
            }
            return set;
        }

        /** How many climbs go on from a hold over free ones with so many holds more at most. */
        private long climbsOn(Rows r, int from, int free, int left) {
            if (left <= 0) {
                return 0;
            }
            long sum = endingFrom(1 << from);
            int next = r.stepped(from, free);
            if (left <= 2) {
                return left == 1 ? sum : sum + endingFrom(next);
            }
            for (int h = 0; h < HOLDS; h++) {
                if ((next >> h & 1) != 0) {
                    sum += climbsOn(r, h, free & ~(1 << h), left - 1);
                }
            }
            return sum;
        }

        /** How many steps lead from a set to a top. */
        private int endingFrom(int set) {
            int sum = 0;
            for (int i = 0; i < tops; i++) {
                sum += Integer.bitCount(set & into[i]);
            }
            return sum;
        }
    }

    /**
     * The fewest holds whose loss shuts a wall. They are as many as the climbs that can be done side by side
     * (Menger), so climbs are laid one by one; a new one may push an old one aside. Each losable hold has two
     * states, that it is come to (h) and that it is gone on from (HOLDS + h).
     */
    private static final class Cut {
        private static final int STATES = 2 * HOLDS;

        /** Losable holds and tops to which one comes from a losable hold over others alone. */
        private final int[] near = new int[HOLDS];
        /** The hold ahead of one in the climb laid over it, NONE: a start. */
        private final int[] ahead = new int[HOLDS];
        private int laid = 0;
        private final int[] queue = new int[STATES];
        private int queued = 0;
        private int seen = 0;
        private final int[] cameFrom = new int[STATES];

        /** How many of the losable ones must be lost at least, ENDLESS if some climb goes without them. */
        int fewest(Rows r, int open, int losable) {
            int tops = open & r.wall.tops;
            int safe = open & ~tops & ~losable;
            int first = r.spread(open & r.wall.starts, safe, open, 0);
            if ((first & tops) != 0) {
                return ENDLESS;
            }
            for (int h = 0; h < HOLDS; h++) {
                if ((open & losable & 1 << h) != 0) {
                    near[h] = r.spread(r.stepped(h, open), safe, open, 0) & (losable | tops) & ~(1 << h);
                }
            }
            laid = 0;
            int number = 0;
            while (number < HOLDS && layOneMore(first & losable, tops)) {
                number++;
            }
            return number;
        }

        /** The least set of the fewest, NONE if there is none. */
        int leastSet(Rows r, int open) {
            int losable = open & r.wall.middles();
            int number = fewest(r, open, losable);
            if (number == ENDLESS) {
                return NONE;
            }
            for (int h = HOLDS - 1; h >= 0 && Integer.bitCount(losable) > number; h--) {
                int without = losable & ~(1 << h);
                if (without != losable && fewest(r, open, without) == number) {
                    losable = without;
                }
            }
            return losable;
        }

        private boolean layOneMore(int first, int tops) {
            queued = 0;
            seen = 0;
            for (int h = 0; h < HOLDS; h++) {
                if ((first >> h & 1) != 0) {
                    visit(h, NONE);
                }
            }
            for (int i = 0; i < STATES && i < queued; i++) {
                int now = queue[i];
                int h = now % HOLDS;
                boolean isLaid = (laid >> h & 1) != 0;
                if (now < HOLDS) {
                    visitBeyond(now, isLaid ? ahead[h] : h);
                } else if ((near[h] & tops) != 0) {
                    lay(now);
                    return true;
                } else {
                    visitNear(now, near[h] & ~tops | (isLaid ? 1 << h : 0));
                }
            }
            return false;
        }

        private void visitBeyond(int now, int h) {
            if (h != NONE) {
                visit(HOLDS + h, now);
            }
        }

        private void visitNear(int now, int set) {
            for (int h = 0; h < HOLDS; h++) {
                if ((set >> h & 1) != 0) {
                    visit(h, now);
                }
            }
        }

        private void visit(int next, int from) {
            if ((seen >> next & 1) == 0 && queued < STATES) {
                seen |= 1 << next;
                cameFrom[next] = from;
                queue[queued] = next;
                queued++;
            }
        }

        /** Goes back from the state ahead of a top and turns what was walked into climbs. */
        private void lay(int last) {
            int now = last;
            for (int i = 0; i < STATES && now != NONE; i++) {
                int from = cameFrom[now];
                int h = now % HOLDS;
                if (now >= HOLDS) {
                    if (from == h) {
                        laid |= 1 << h;
                    }
                } else if (from == HOLDS + h) {
                    laid &= ~(1 << h);
                } else {
                    ahead[h] = from == NONE ? NONE : from - HOLDS;
                }
                now = from;
            }
        }
    }

    /** Climbs that use just a set, and holds over which some climb goes: by all sets that the rest of a climb can have. */
    private static final class Chains {
        /** Of each set: on which of its holds a walk over all of it to a step to a top can begin. */
        private int[] heads = new int[1];
        /** The holds over which walks may go. */
        private int all = 0;
        private final int[] row = new int[HOLDS];
        final int[] path = new int[HOLDS];

        /** Sets of one hold are told; walks over more of all grow from them. */
        private void prepare(Rows r, int walkable, int tops) {
            all = walkable;
            int size = Math.max(1, 2 * Integer.highestOneBit(all));
            if (heads.length < size) {
                heads = new int[size];
            }
            int sets = 1 << Integer.bitCount(all);
            int set = 0;
            for (int i = 0; i < sets; i++) {
                heads[set] = 0;
                set = set - all & all;
            }
            for (int h = 0; h < HOLDS; h++) {
                if ((all >> h & 1) != 0) {
                    row[h] = r.stepped(h, all);
                    heads[1 << h] = r.stepped(h, tops) != 0 ? 1 << h : 0;
                }
            }
        }

        /** Walks over a set are told: what they grow to by a hold ahead of them. */
        private void growFrom(int set) {
            int begun = heads[set];
            for (int h = 0; h < HOLDS && begun != 0; h++) {
                if (((all & ~set) >> h & 1) != 0 && (row[h] & begun) != 0) {
                    heads[set | 1 << h] |= 1 << h;
                }
            }
        }

        /** Holds over which some climb goes. */
        int inClimbs(Rows r, int open) {
            int reached = r.reached(open);
            int tops = reached & r.wall.tops;
            int starts = open & r.wall.starts;
            prepare(r, leadingOn(r, reached & ~tops, tops), tops);
            int sets = 1 << Integer.bitCount(all);
            int set = 0;
            int found = 0;
            for (int i = 1; i < sets && found != all; i++) {
                set = set - all & all;
                growFrom(set);
                if ((heads[set] & starts) != 0) {
                    found |= set;
                }
            }
            return found | tops;
        }

        /** Those of a set from which a top can be come to over it. */
        private static int leadingOn(Rows r, int among, int tops) {
            int good = tops;
            boolean more = true;
            for (int i = 0; i < HOLDS && more; i++) {
                int was = good;
                for (int h = 0; h < HOLDS; h++) {
                    if (((among & ~good) >> h & 1) != 0 && r.stepped(h, good) != 0) {
                        good |= 1 << h;
                    }
                }
                more = good != was;
            }
            return good & ~tops;
        }

        /** The fewest holds ahead of the top in a climb that uses just a set; 0: it is one hold; NONE: there is none. */
        int fewest(Rows r, int set, int there) {
            int tops = there & r.wall.tops;
            int starts = there & r.wall.starts;
            if (set == 0 && (starts & tops) != 0) {
                return 0;
            }
            int more = starts & ~tops;
            int reached = r.spread(more, set | more, set | more | tops, 0);
            int walkable = leadingOn(r, reached & ~tops, tops & reached);
            more &= walkable;
            if ((walkable & set) != set || more == 0) {
                return NONE;
            }
            prepare(r, walkable, tops);
            int best = NONE;
            int sets = 1 << Integer.bitCount(all);
            int walked = 0;
            for (int i = 1; i < sets; i++) {
                walked = walked - all & all;
                growFrom(walked);
                int size = Integer.bitCount(walked);
                if ((walked & set) == set && (heads[walked] & more) != 0 && (best == NONE || size < best)) {
                    best = size;
                }
            }
            return best;
        }

        /** The first of the climbs with the fewest holds that use just a set comes into path: how many holds. */
        int first(Rows r, int set, int there) {
            int best = fewest(r, set, there);
            int tops = there & r.wall.tops;
            if (best == NONE || best >= HOLDS) {
                return 0;
            }
            int left = best == 0 ? 0 : all;
            int more = left & ~set;
            int allowed = there & r.wall.starts;
            for (int i = 0; i < best; i++) {
                int begun = begunOver(set & left, more & left, best - i) & allowed;
                int h = Integer.numberOfTrailingZeros(begun);
                path[i] = h;
                left &= ~(1 << h);
                allowed = r.stepped(h, left | tops);
            }
            path[best] = Integer.numberOfTrailingZeros(allowed & tops);
            return best + 1;
        }

        /** On which holds a walk over a set and some of others, so many in all, can begin. */
        private int begunOver(int set, int others, int size) {
            int found = 0;
            int sets = 1 << Integer.bitCount(others);
            int extra = 0;
            for (int i = 0; i < sets; i++) {
                int whole = set | extra;
                if (Integer.bitCount(whole) == size && whole >= 0 && whole < heads.length) {
                    found |= heads[whole];
                }
                extra = extra - others & others;
            }
            return found;
        }
    }
}
