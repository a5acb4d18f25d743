import java.util.Arrays;

/** A border of dough between two duchies: its nights, the acts done to it, and what can be asked of it. */
public final class DoughBorder {
    public static final int NONE = -1;

    private static final int CANNOT = -2;
    private static final int NO_PUSHES = -3;
    private static final int OFF_THE_MAP = -100;

    private static final int MOST_BYTES = 400;
    private static final int MOST_RULES = 6;
    private static final int MOST_IMAGES = 4;
    private static final int MOST_MILES = 10;
    private static final int MOST_VILLAGES = 8;
    private static final int MOST_WANTS = 8;
    private static final int MOST_ACTS = 20;
    private static final int MOST_LOGS = 10;
    private static final int MOST_DOUGH = 99;
    private static final int MOST_SALT = 9;
    private static final int FARTHEST = 20;
    private static final int MOST_PUSHED = 3;
    private static final int TOLD_NIGHTS = 100;
    private static final int LAST_NIGHT = 999;
    private static final int LAST_LOG_NIGHT = 30;
    private static final int THEFT_NIGHTS = 30;
    private static final int MOST_AHEAD = 100;
    private static final int MOST_ASKED = 60;
    private static final int MOST_SUMMERS = 10;
    private static final int PUSH_NIGHTS = 3;
    private static final int DUKE_NIGHTS = 4;

    private static final int WEST = 0;
    private static final int EAST = 1;
    private static final int ON_THE_LINE = 2;

    private final Text tape = new Text();
    private final StripReader stripReader = new StripReader(tape);
    private final RuleReader ruleReader = new RuleReader(tape);
    private final Rule[] rules = new Rule[MOST_RULES];
    private int ruleCount;
    private final World now = new World();
    private final World[] images = new World[MOST_IMAGES];
    private final boolean[] made = new boolean[MOST_IMAGES];
    private final Law law = new Law();
    private final Outlook outlook = new Outlook(law);
    private final Contest contest = new Contest(law);
    private final Thefts thefts = new Thefts();

    public DoughBorder() {
        for (int k = 0; k < MOST_RULES; k++) {
            rules[k] = new Rule();
        }
        for (int k = 0; k < MOST_IMAGES; k++) {
            images[k] = new World();
        }
    }

    public int feed(int a, int b, int c, int d, int e) {
        if (tape.size > MOST_BYTES - 20) {
            return NONE;
        }
        tape.add(a);
        tape.add(b);
        tape.add(c);
        tape.add(d);
        tape.add(e);
        return tape.size;
    }

    public int end(int n) {
        if (n < 0 || n > tape.size) {
            return NONE;
        }
        tape.size = n;
        return n;
    }

    public int strip() {
        Strip told = stripReader.read();
        tape.size = 0;
        if (tape.fault != 0) {
            return -2 - tape.fault;
        }
        now.begin(told);
        renewLaw();
        return told.villages;
    }

    public int rule() {
        if (ruleCount >= MOST_RULES) {
            return NONE;
        }
        ruleReader.read(rules[ruleCount]);
        tape.size = 0;
        if (tape.fault != 0) {
            return -2 - tape.fault;
        }
        ruleCount++;
        return ruleCount - 1;
    }

    public int force(int rule) {
        if (rule < NONE || rule >= ruleCount) {
            return CANNOT;
        }
        int was = now.force;
        now.force = rule;
        renewLaw();
        return was;
    }

    public int mile(int mile, int what) {
        if (!isMile(mile)) {
            return OFF_THE_MAP;
        }
        switch (what) {
            case 0: return now.land.line[mile];
            case 1: return now.land.dough[mile];
            case 2: return now.land.salt[mile];
            case 3: return now.land.isBaked(mile) ? 1 : 0;
            case 4: return now.strip.villagesIn[mile];
            default: return OFF_THE_MAP;
        }
    }

    public int village(int village, int what) {
        if (!isVillage(village)) {
            return OFF_THE_MAP;
        }
        switch (what) {
            case 0: return now.strip.villageMile[village];
            case 1: return now.strip.villagePlace[village];
            case 2: return now.strip.villageOwner[village];
            case 3: return now.strip.sideOf(now.land, village);
            case 4: return now.land.crossed[village];
            default: return OFF_THE_MAP;
        }
    }

    public int warm(int night) {
        return night < 0 || !hasStrip() ? NONE : now.strip.warmthOf(night);
    }

    public int night() {
        if (!hasStrip() || now.land.night >= LAST_NIGHT) {
            return NONE;
        }
        now.remember();
        return Integer.bitCount(law.pass(now.land, Law.TOLD));
    }

    public int horses(int mile, int feet) {
        if (!isSoft(mile) || feet == 0 || feet < -MOST_PUSHED || feet > MOST_PUSHED) {
            return OFF_THE_MAP;
        }
        now.remember();
        int before = now.strip.sidesOf(now.land);
        now.land.moveLine(mile, feet);
        now.land.countCrossed(changedSides(before, now.strip.sidesOf(now.land)));
        return now.land.line[mile];
    }

    public int salt(int mile) {
        if (!isMile(mile) || now.land.salt[mile] >= MOST_SALT) {
            return NONE;
        }
        now.remember();
        now.land.salt[mile]++;
        return now.land.salt[mile];
    }

    public int sugar(int mile) {
        if (!isSoft(mile)) {
            return NONE;
        }
        now.remember();
        now.land.salt[mile] = Math.max(now.land.salt[mile] - 1, 0);
        now.land.dough[mile] = Math.min(now.land.dough[mile] + 10, MOST_DOUGH);
        return now.land.dough[mile];
    }

    public int slice(int mile, int dough) {
        if (!isSoft(mile) || dough < 1 || dough > now.land.dough[mile]) {
            return NONE;
        }
        now.remember();
        now.land.dough[mile] -= dough;
        return now.land.dough[mile];
    }

    public boolean bake(int mile) {
        if (!isSoft(mile)) {
            return false;
        }
        now.remember();
        now.land.baked |= 1 << mile;
        return true;
    }

    public int undo() {
        if (now.actCount == 0) {
            return CANNOT;
        }
        now.recall();
        return now.actCount;
    }

    public int ahead(int mile, int n, int what) {
        if (!isMile(mile) || n < 0 || n > MOST_AHEAD || what < 0 || what > 2) {
            return OFF_THE_MAP;
        }
        Land then = outlook.landAfter(now.land, n);
        switch (what) {
            case 0: return then.line[mile];
            case 1: return then.dough[mile];
            default: return eastIn(now.strip.sidesOf(then));
        }
    }

    public int crosses(int village) {
        return isVillage(village) ? outlook.firstCrossing(now.land, village) : NONE;
    }

    public int push(int n, int what) {
        if (!hasStrip() || n < 1 || n > PUSH_NIGHTS || what < 0 || what > PUSH_NIGHTS) {
            return NO_PUSHES;
        }
        if (what > n) {
            return CANNOT;
        }
        int fewest = contest.fewestPushes(now.land, n);
        if (fewest == NONE) {
            return CANNOT;
        }
        return what == 0 ? fewest : contest.row[what - 1];
    }

    public int dukes(int n, int what) {
        if (!hasStrip() || n < 1 || n > DUKE_NIGHTS || what < 0 || what > 1) {
            return OFF_THE_MAP;
        }
        int gain = contest.westGain(now.land, n);
        return what == 0 ? gain : contest.firstPushed;
    }

    public int log(int n, int mile, int dough) {
        if (n == NONE) {
            now.logs = 0;
            return 0;
        }
        if (n < 0 || n > LAST_LOG_NIGHT || !isMile(mile) || dough < 0 || dough > MOST_DOUGH
                || now.logs >= MOST_LOGS) {
            return CANNOT;
        }
        now.addLog(n, mile, dough);
        return now.logs;
    }

    public int theft(int size, int what) {
        if (!isTheftSize(size) || what < 0 || what > 2) {
            return NONE;
        }
        thefts.find(now, size);
        if (what == 0) {
            return thefts.count;
        }
        if (thefts.count == 0) {
            return CANNOT;
        }
        return what == 1 ? thefts.miles[0] : thefts.nights[0];
    }

    public int weigh(int size, int n, int what) {
        if (!isTheftSize(size) || n < 0 || n > LAST_LOG_NIGHT || what < 0 || what > 1) {
            return NONE;
        }
        thefts.find(now, size);
        if (thefts.count == 0) {
            return CANNOT;
        }
        thefts.sortBy(n);
        return what == 0 ? thefts.bestMile : thefts.mostAlike;
    }

    public int crust(int mile, int village, int n, int what) {
        if (!isMile(mile) || !isVillage(village) || n < 1 || n > MOST_ASKED || what < 0 || what > 1) {
            return CANNOT;
        }
        outlook.seekCrust(now.land, mile, village, n);
        return what == 0 ? outlook.bestNight : outlook.mostNights;
    }

    public int peace(int n, int what) {
        if (!hasStrip() || n < 1 || n > MOST_ASKED || what < 0 || what > 1) {
            return NONE;
        }
        int set = outlook.peaceSet(now.land, n);
        if (set == NONE) {
            return CANNOT;
        }
        return what == 0 ? Integer.bitCount(set) : set;
    }

    public int part(int part) {
        if (!hasStrip() || part < 0 || part > 1) {
            return NONE;
        }
        int west = 0;
        for (int m = 0; m < now.strip.miles; m++) {
            west += now.land.line[m] + FARTHEST;
        }
        int all = (2 * FARTHEST + 1) * now.strip.miles;
        int common = Math.max(greatestDivisor(west, all), 1);
        return (part == 0 ? west : all) / common;
    }

    public int seed(int x) {
        if (x < 0) {
            return NONE;
        }
        int was = now.x;
        now.x = x;
        return was;
    }

    public int summers(int m, int n, int what) {
        if (!hasStrip() || m < 1 || m > MOST_SUMMERS || n < 1 || n > MOST_ASKED || what < 0 || what > 1) {
            return NONE;
        }
        outlook.drawSummers(now, m, n);
        return what == 0 ? outlook.summerCrossings : outlook.summerFeet;
    }

    public int count(int what) {
        switch (what) {
            case 0: return now.strip.miles;
            case 1: return now.strip.damp;
            case 2: return now.strip.villages;
            case 3: return now.strip.wants;
            case 4: return ruleCount;
            case 5: return now.force;
            case 6: return now.land.night;
            case 7: return now.land.baked;
            case 8: return now.land.allCrossed();
            case 9: return now.logs;
            case 10: return now.actCount;
            case 11: return now.x;
            case 12: return tape.size;
            default: return NONE;
        }
    }

    public int image(int k) {
        if (k < 0 || k >= MOST_IMAGES) {
            return NONE;
        }
        images[k].copyFrom(now);
        made[k] = true;
        return now.land.night;
    }

    public int back(int k) {
        if (k < 0 || k >= MOST_IMAGES || !made[k]) {
            return NONE;
        }
        now.copyFrom(images[k]);
        renewLaw();
        return now.land.night;
    }

    private boolean hasStrip() {
        return now.strip.miles > 0;
    }

    private boolean isMile(int mile) {
        return mile >= 0 && mile < now.strip.miles;
    }

    private boolean isSoft(int mile) {
        return isMile(mile) && !now.land.isBaked(mile);
    }

    private boolean isVillage(int village) {
        return village >= 0 && village < now.strip.villages;
    }

    private boolean isTheftSize(int size) {
        return hasStrip() && size >= 1 && size <= MOST_DOUGH;
    }

    private void renewLaw() {
        boolean ruled = now.force >= 0 && now.force < ruleCount;
        law.take(now.strip, ruled ? rules[now.force] : null);
    }

    private static int held(int number, int least, int most) {
        return number < least ? least : number > most ? most : number;
    }

    private static int greatestDivisor(int a, int b) {
        int high = a;
        int low = b;
        for (int step = 0; step < 64 && low != 0; step++) {
            int rest = high % low;
            high = low;
            low = rest;
        }
        return high;
    }

    // Sides of all villages are held in one number, so that a crossing is a bit that differs:
    // the low eight bits for those that lie west, the next eight for those that lie east.

    private static int westIn(int sides) {
        return sides & 255;
    }

    private static int eastIn(int sides) {
        return sides >> 8 & 255;
    }

    private static int changedSides(int before, int after) {
        int changed = before ^ after;
        return westIn(changed) | eastIn(changed);
    }

    /** The tape, and the sign in it at which reading stands: a byte, or several that belong together. */
    private static final class Text {
        static final int STOPPED = -2;
        static final int END = -1;
        // these lie above all bytes, which are signs by themselves
        static final int NUMBER = 256;
        static final int WORD = 257;
        static final int AT_MOST = 258;
        static final int AT_LEAST = 259;

        static final int MISPLACED = 0;
        static final int BAD_NUMBER = 1;
        static final int TOO_DEEP = 2;
        static final int TOO_MANY_VALUES = 3;
        static final int TOO_MANY_CLAUSES = 4;

        private static final int MOST_DIGITS = 5;

        private final int[] bytes = new int[MOST_BYTES];
        int size;
        int sign;
        private int begin;
        private int end;
        int fault;

        void add(int number) {
            for (int shift = 24; shift >= 0 && size < MOST_BYTES; shift -= 8) {
                bytes[size] = number >> shift & 255;
                size++;
            }
        }

        void start() {
            end = 0;
            fault = 0;
            advance();
        }

        /** Goes to the next sign. Behind a fault none comes any more, so that all reading ends. */
        void advance() {
            if (fault != 0) {
                return;
            }
            begin = end;
            while (begin < size && bytes[begin] == ' ') {
                begin++;
            }
            end = Math.min(begin + 1, size);
            if (begin >= size) {
                sign = END;
            } else if (isDigit(bytes[begin])) {
                sign = NUMBER;
                while (end < size && isDigit(bytes[end])) {
                    end++;
                }
            } else if (isLetter(bytes[begin])) {
                sign = WORD;
                while (end < size && isLetter(bytes[end])) {
                    end++;
                }
            } else {
                sign = bytes[begin];
                joinEqual();
            }
        }

        private void joinEqual() {
            boolean compares = sign == '<' || sign == '>';
            if (compares && end < size && bytes[end] == '=') {
                sign = sign == '<' ? AT_MOST : AT_LEAST;
                end++;
            }
        }

        void blame(int kind) {
            if (fault == 0) {
                fault = 1 + 8 * begin + kind;
                sign = STOPPED;
            }
        }

        boolean isWord(String word) {
            int length = word.length();
            if (sign != WORD || end - begin != length) {
                return false;
            }
            for (int k = 0; k < length; k++) {
                if (bytes[begin + k] != word.charAt(k)) {
                    return false;
                }
            }
            return true;
        }

        /** The number that stands here, without going on; of one at fault the least that could stand here. */
        int number(int least, int most) {
            if (sign != NUMBER) {
                blame(MISPLACED);
                return least;
            }
            int value = 0;
            for (int k = begin; k < end && k < begin + MOST_DIGITS; k++) {
                value = value * 10 + bytes[k] - '0';
            }
            if (end - begin > MOST_DIGITS || value < least || value > most) {
                blame(BAD_NUMBER);
                return least;
            }
            return value;
        }

        int takeNumber(int least, int most) {
            int value = number(least, most);
            advance();
            return value;
        }

        /** Whether another clause comes; a text that neither ends here nor goes on with a ; is at fault. */
        boolean goesOn() {
            if (sign == ';') {
                advance();
                return true;
            }
            if (sign != END) {
                blame(MISPLACED);
            }
            return false;
        }

        private static boolean isDigit(int sign) {
            return sign >= '0' && sign <= '9';
        }

        private static boolean isLetter(int sign) {
            return sign >= 'a' && sign <= 'z';
        }
    }

    /** What a text tells of a strip; it never changes behind its reading, so images may share it. */
    private static final class Strip {
        int miles;
        int damp;
        int villages;
        int wants;
        final int[] warmth = new int[TOLD_NIGHTS];
        final int[] villageMile = new int[MOST_VILLAGES];
        final int[] villagePlace = new int[MOST_VILLAGES];
        final int[] villageOwner = new int[MOST_VILLAGES];
        final int[] villagesIn = new int[MOST_MILES];
        final int[] wantVillage = new int[MOST_WANTS];
        final int[] wantSide = new int[MOST_WANTS];
        final Land start = new Land();

        int warmthOf(int night) {
            return night < 0 || night >= TOLD_NIGHTS ? 0 : warmth[night];
        }

        int sideOf(Land land, int village) {
            int line = land.line[villageMile[village]];
            int place = villagePlace[village];
            return place < line ? WEST : place > line ? EAST : ON_THE_LINE;
        }

        int sidesOf(Land land) {
            int sides = 0;
            for (int v = 0; v < villages; v++) {
                int line = land.line[villageMile[v]];
                int place = villagePlace[v];
                if (place < line) {
                    sides |= 1 << v;
                } else if (place > line) {
                    sides |= 256 << v;
                }
            }
            return sides;
        }

        boolean hasItsWants(Land land) {
            for (int w = 0; w < wants; w++) {
                if (sideOf(land, wantVillage[w]) != wantSide[w]) {
                    return false;
                }
            }
            return true;
        }
    }

    /** Reads a strip from the tape. */
    private static final class StripReader {
        private static final int MOST_CLAUSES = 40;

        private static final int STRIP = 0;
        private static final int MILE = 1;
        private static final int WARM = 2;
        private static final int BAKED = 3;
        private static final int VILLAGE = 4;
        private static final int WANT = 5;
        private static final int KINDS = 6;

        private final Text text;
        private Strip strip = new Strip();

        StripReader(Text text) {
            this.text = text;
        }

        Strip read() {
            Strip told = new Strip();
            strip = told;
            text.start();
            for (int m = 0; m < MOST_MILES; m++) {
                told.start.dough[m] = 10;
            }
            boolean more = true;
            for (int clause = 0; more && clause <= MOST_CLAUSES; clause++) {
                readClause(clause);
                more = text.goesOn();
            }
            return told;
        }

        private void readClause(int clause) {
            int kind = clauseKind();
            boolean ninth = kind == VILLAGE && strip.villages >= MOST_VILLAGES
                    || kind == WANT && strip.wants >= MOST_WANTS;
            if (kind == NONE) {
                text.blame(Text.MISPLACED);
            } else if ((kind == STRIP) != (clause == 0) || clause >= MOST_CLAUSES || ninth) {
                text.blame(Text.TOO_MANY_CLAUSES);
            }
            text.advance();
            switch (kind) {
                case STRIP: readStrip(); break;
                case MILE: readMile(); break;
                case WARM: readWarm(); break;
                case BAKED: readBaked(); break;
                case VILLAGE: readVillage(); break;
                case WANT: readWant(); break;
                default: break;
            }
        }

        private int clauseKind() {
            for (int kind = 0; kind < KINDS; kind++) {
                if (text.isWord(nameOf(kind))) {
                    return kind;
                }
            }
            return NONE;
        }

        private static String nameOf(int kind) {
            switch (kind) {
                case STRIP: return "strip";
                case MILE: return "mile";
                case WARM: return "warm";
                case BAKED: return "baked";
                case VILLAGE: return "village";
                default: return "want";
            }
        }

        private void readStrip() {
            int miles = text.takeNumber(2, MOST_MILES);
            int damp = text.takeNumber(0, 3);
            if (text.fault == 0) {
                strip.miles = miles;
                strip.damp = damp;
            }
        }

        private void readMile() {
            int mile = text.takeNumber(0, strip.miles - 1);
            int line = text.takeNumber(0, 2 * FARTHEST) - FARTHEST;
            int dough = text.takeNumber(0, MOST_DOUGH);
            int salt = text.takeNumber(0, MOST_SALT);
            if (text.fault == 0) {
                strip.start.line[mile] = line;
                strip.start.dough[mile] = dough;
                strip.start.salt[mile] = salt;
            }
        }

        private void readWarm() {
            int first = text.takeNumber(0, TOLD_NIGHTS - 1);
            int last = text.takeNumber(first, TOLD_NIGHTS - 1);
            int warmth = text.takeNumber(1, 9);
            if (text.fault == 0) {
                for (int night = first; night <= last; night++) {
                    strip.warmth[night] = warmth;
                }
            }
        }

        private void readBaked() {
            int mile = text.takeNumber(0, strip.miles - 1);
            if (text.fault == 0) {
                strip.start.baked |= 1 << mile;
            }
        }

        private void readVillage() {
            int mile = text.takeNumber(0, strip.miles - 1);
            int place = text.takeNumber(0, 2 * FARTHEST) - FARTHEST;
            int owner = text.takeNumber(WEST, EAST);
            if (text.fault == 0) {
                int village = strip.villages;
                strip.villageMile[village] = mile;
                strip.villagePlace[village] = place;
                strip.villageOwner[village] = owner;
                strip.villagesIn[mile] |= 1 << village;
                strip.villages++;
            }
        }

        private void readWant() {
            int village = text.takeNumber(0, strip.villages - 1);
            int side = text.takeNumber(WEST, EAST);
            if (text.fault == 0) {
                strip.wantVillage[strip.wants] = village;
                strip.wantSide[strip.wants] = side;
                strip.wants++;
            }
        }
    }

    /** A rule as code for a stack: a number or a word goes on top, a sign joins what lies there. */
    private static final class Rule {
        static final int MOST_CLAUSES = 12;
        static final int MOST_VALUES = 60;

        /** A code below this is a number (of five digits at most), from it on a word. */
        static final int FIRST_WORD = 100000;

        static final int MILE = 0;
        static final int LINE = 1;
        static final int DOUGH = 2;
        static final int SALT = 3;
        static final int DAMP = 4;
        static final int WARM = 5;
        static final int NIGHT = 6;
        static final int ABOVE = 7;
        static final int BELOW = 8;
        static final int IN_WEST = 9;
        static final int IN_EAST = 10;
        static final int CRUST = 11;
        static final int WORDS = 12;

        static final int PLUS = -1;
        static final int MINUS = -2;
        static final int TIMES = -3;
        static final int BY = -4;
        static final int REST = -5;
        static final int LESS = -6;
        static final int AT_MOST = -7;
        static final int EQUAL = -8;
        static final int AT_LEAST = -9;
        static final int MORE = -10;
        static final int AND = -11;
        static final int OR = -12;
        static final int NOT = -13;

        private final int[] code = new int[MOST_BYTES];
        int size;
        private final int[] sumBegin = new int[MOST_CLAUSES];
        private final int[] testBegin = new int[MOST_CLAUSES];
        private final int[] clauseEnd = new int[MOST_CLAUSES];
        private int clauses;
        private final long[] stack = new long[MOST_VALUES];

        void clear() {
            size = 0;
            clauses = 0;
        }

        void add(int sign) {
            if (size < MOST_BYTES) {
                code[size] = sign;
                size++;
            }
        }

        void addClause(int begin, int test) {
            if (clauses < MOST_CLAUSES) {
                sumBegin[clauses] = begin;
                testBegin[clauses] = test;
                clauseEnd[clauses] = size;
                clauses++;
            }
        }

        /** By how many feet a mile of which these words are told creeps east, held. */
        int feet(long[] words) {
            for (int c = 0; c < clauses; c++) {
                boolean untested = testBegin[c] == clauseEnd[c];
                if (untested || result(testBegin[c], clauseEnd[c], words) != 0) {
                    long sum = result(sumBegin[c], testBegin[c], words);
                    return (int) Math.max(-MOST_PUSHED, Math.min(MOST_PUSHED, sum));
                }
            }
            return 0;
        }

        private long result(int from, int to, long[] words) {
            int top = -1;
            for (int at = from; at < to; at++) {
                int sign = code[at];
                if (sign >= 0 && top < MOST_VALUES - 1) {
                    top++;
                    stack[top] = sign < FIRST_WORD ? sign : words[sign - FIRST_WORD];
                } else if (sign == NOT && top >= 0) {
                    stack[top] = 1 - stack[top];
                } else if (sign < 0 && top >= 1) {
                    top--;
                    stack[top] = joined(sign, stack[top], stack[top + 1]);
                }
            }
            return stack[0];
        }

        private static long joined(int sign, long a, long b) {
            switch (sign) {
                case PLUS: return a + b;
                case MINUS: return a - b;
                case TIMES: return a * b;
                case BY: return b == 0 ? 0 : a / b;
                case REST: return b == 0 ? 0 : a % b;
                case LESS: return a < b ? 1 : 0;
                case AT_MOST: return a <= b ? 1 : 0;
                case EQUAL: return a == b ? 1 : 0;
                case AT_LEAST: return a >= b ? 1 : 0;
                case MORE: return a > b ? 1 : 0;
                case AND: return a & b;
                case OR: return a | b;
                default: return 0;
            }
        }
    }

    /** Reads a rule from the tape. */
    private static final class RuleReader {
        private static final int DEEPEST = 10;
        private static final int NO_SIGN = 0;

        private final Text text;
        private Rule rule = new Rule();
        private int values;

        RuleReader(Text text) {
            this.text = text;
        }

        void read(Rule blank) {
            rule = blank;
            rule.clear();
            values = 0;
            text.start();
            boolean more = true;
            for (int clause = 0; more && clause <= Rule.MOST_CLAUSES; clause++) {
                if (!text.isWord("creep")) {
                    text.blame(Text.MISPLACED);
                } else if (clause == Rule.MOST_CLAUSES) {
                    text.blame(Text.TOO_MANY_CLAUSES);
                }
                text.advance();
                int begin = rule.size;
                readSum();
                int test = rule.size;
                if (text.isWord("if")) {
                    text.advance();
                    readTest(0);
                }
                rule.addClause(begin, test);
                more = text.goesOn();
            }
        }

        /** An or waits until the part behind it has ended, for and binds more tightly. */
        private void readTest(int depth) {
            boolean and = false;
            boolean or = false;
            boolean more = true;
            for (int fact = 0; more && fact <= Rule.MOST_VALUES; fact++) {
                readFact(depth);
                if (and) {
                    rule.add(Rule.AND);
                }
                and = text.isWord("and");
                if (!and) {
                    if (or) {
                        rule.add(Rule.OR);
                    }
                    or = text.isWord("or");
                }
                more = and || or;
                if (more) {
                    text.advance();
                }
            }
        }

        private void readFact(int depth) {
            boolean opens = text.sign == '[';
            boolean denies = text.isWord("not");
            if (!opens && !denies) {
                readSum();
                int sign = takeComparison();
                readSum();
                rule.add(sign);
            } else if (depth >= DEEPEST) {
                text.blame(Text.TOO_DEEP);
            } else if (denies) {
                text.advance();
                readFact(depth + 1);
                rule.add(Rule.NOT);
            } else {
                text.advance();
                readTest(depth + 1);
                if (text.sign != ']') {
                    text.blame(Text.MISPLACED);
                }
                text.advance();
            }
        }

        private int takeComparison() {
            int sign = comparison(text.sign);
            if (sign == NO_SIGN) {
                text.blame(Text.MISPLACED);
            }
            countValue();
            text.advance();
            return sign;
        }

        /** A + or - waits until the term behind it has ended, for * / % bind more tightly. */
        private void readSum() {
            int product = NO_SIGN;
            int sum = NO_SIGN;
            boolean more = true;
            for (int value = 0; more && value <= Rule.MOST_VALUES; value++) {
                readValue();
                if (product != NO_SIGN) {
                    rule.add(product);
                }
                product = productSign(text.sign);
                if (product == NO_SIGN) {
                    if (sum != NO_SIGN) {
                        rule.add(sum);
                    }
                    sum = sumSign(text.sign);
                }
                more = product != NO_SIGN || sum != NO_SIGN;
                if (more) {
                    text.advance();
                }
            }
        }

        private void readValue() {
            int sign = text.sign == Text.WORD ? wordSign() : text.number(0, Rule.FIRST_WORD - 1);
            countValue();
            text.advance();
            rule.add(sign);
        }

        private void countValue() {
            values++;
            if (values > Rule.MOST_VALUES) {
                text.blame(Text.TOO_MANY_VALUES);
            }
        }

        private int wordSign() {
            for (int word = 0; word < Rule.WORDS; word++) {
                if (text.isWord(nameOf(word))) {
                    return Rule.FIRST_WORD + word;
                }
            }
            text.blame(Text.MISPLACED);
            return Rule.FIRST_WORD;
        }

        private static int comparison(int sign) {
            switch (sign) {
                case '<': return Rule.LESS;
                case Text.AT_MOST: return Rule.AT_MOST;
                case '=': return Rule.EQUAL;
                case Text.AT_LEAST: return Rule.AT_LEAST;
                case '>': return Rule.MORE;
                default: return NO_SIGN;
            }
        }

        private static int productSign(int sign) {
            switch (sign) {
                case '*': return Rule.TIMES;
                case '/': return Rule.BY;
                case '%': return Rule.REST;
                default: return NO_SIGN;
            }
        }

        private static int sumSign(int sign) {
            switch (sign) {
                case '+': return Rule.PLUS;
                case '-': return Rule.MINUS;
                default: return NO_SIGN;
            }
        }

        private static String nameOf(int word) {
            switch (word) {
                case Rule.MILE: return "mile";
                case Rule.LINE: return "line";
                case Rule.DOUGH: return "dough";
                case Rule.SALT: return "salt";
                case Rule.DAMP: return "damp";
                case Rule.WARM: return "warm";
                case Rule.NIGHT: return "night";
                case Rule.ABOVE: return "above";
                case Rule.BELOW: return "below";
                case Rule.IN_WEST: return "west";
                case Rule.IN_EAST: return "east";
                default: return "crust";
            }
        }
    }

    /** What nights and acts change. */
    private static final class Land {
        /** How many numbers a land is when it is written into a row. */
        static final int CELLS = 3 * MOST_MILES + MOST_VILLAGES + 2;

        final int[] line = new int[MOST_MILES];
        final int[] dough = new int[MOST_MILES];
        final int[] salt = new int[MOST_MILES];
        final int[] crossed = new int[MOST_VILLAGES];
        int baked;
        int night;

        void copyFrom(Land other) {
            System.arraycopy(other.line, 0, line, 0, MOST_MILES);
            System.arraycopy(other.dough, 0, dough, 0, MOST_MILES);
            System.arraycopy(other.salt, 0, salt, 0, MOST_MILES);
            System.arraycopy(other.crossed, 0, crossed, 0, MOST_VILLAGES);
            baked = other.baked;
            night = other.night;
        }

        void writeTo(int[] row, int at) {
            System.arraycopy(line, 0, row, at, MOST_MILES);
            System.arraycopy(dough, 0, row, at + MOST_MILES, MOST_MILES);
            System.arraycopy(salt, 0, row, at + 2 * MOST_MILES, MOST_MILES);
            System.arraycopy(crossed, 0, row, at + 3 * MOST_MILES, MOST_VILLAGES);
            row[at + CELLS - 2] = baked;
            row[at + CELLS - 1] = night;
        }

        void readFrom(int[] row, int at) {
            System.arraycopy(row, at, line, 0, MOST_MILES);
            System.arraycopy(row, at + MOST_MILES, dough, 0, MOST_MILES);
            System.arraycopy(row, at + 2 * MOST_MILES, salt, 0, MOST_MILES);
            System.arraycopy(row, at + 3 * MOST_MILES, crossed, 0, MOST_VILLAGES);
            baked = row[at + CELLS - 2];
            night = row[at + CELLS - 1];
        }

        boolean isBaked(int mile) {
            return (baked >> mile & 1) != 0;
        }

        void moveLine(int mile, int feet) {
            line[mile] = held(line[mile] + feet, -FARTHEST, FARTHEST);
        }

        void countCrossed(int villages) {
            for (int v = 0; v < MOST_VILLAGES && villages >> v != 0; v++) {
                crossed[v] += villages >> v & 1;
            }
        }

        int allCrossed() {
            int all = 0;
            for (int v = 0; v < MOST_VILLAGES; v++) {
                all += crossed[v];
            }
            return all;
        }
    }

    /** How a night goes by: the strip, and the rule in force (null: none). */
    private static final class Law {
        static final int TOLD = -1;
        private static final int STEEPEST = 4;

        Strip strip = new Strip();
        private Rule rule;
        private final int[] feet = new int[MOST_MILES];
        private final long[] words = new long[Rule.WORDS];

        void take(Strip told, Rule inForce) {
            strip = told;
            rule = inForce;
        }

        /** A night goes by, as warm as is drawn, or as TOLD: the villages that are crossed in it, as bits. */
        int pass(Land land, int drawn) {
            int warmth = drawn == TOLD ? strip.warmthOf(land.night) : drawn;
            int before = strip.sidesOf(land);
            rise(land, warmth);
            for (int m = 0; m < strip.miles; m++) {
                if (land.isBaked(m)) {
                    feet[m] = 0;
                } else if (rule == null) {
                    feet[m] = feetWithoutRule(land, m);
                } else {
                    words[Rule.WARM] = warmth;
                    tellWords(land, m, before);
                    feet[m] = rule.feet(words);
                }
            }
            for (int m = 0; m < strip.miles; m++) {
                land.moveLine(m, feet[m]);
            }
            sag(land);
            land.night = Math.min(land.night + 1, LAST_NIGHT);
            int crossed = changedSides(before, strip.sidesOf(land));
            land.countCrossed(crossed);
            return crossed;
        }

        private void rise(Land land, int warmth) {
            for (int m = 0; m < strip.miles; m++) {
                if (!land.isBaked(m)) {
                    land.dough[m] = Math.min(land.dough[m] + warmth, MOST_DOUGH);
                }
            }
        }

        private int feetWithoutRule(Land land, int mile) {
            int wish = land.dough[mile] / 20 + strip.damp - land.salt[mile];
            return held(wish, -MOST_PUSHED, MOST_PUSHED);
        }

        /** Lines stand still while feet are measured, so the sides ahead of the night hold for all miles. */
        private void tellWords(Land land, int mile, int sides) {
            int ahead = mile > 0 ? mile - 1 : mile;
            int behind = mile < strip.miles - 1 ? mile + 1 : mile;
            words[Rule.MILE] = mile;
            words[Rule.LINE] = land.line[mile];
            words[Rule.DOUGH] = land.dough[mile];
            words[Rule.SALT] = land.salt[mile];
            words[Rule.DAMP] = strip.damp;
            words[Rule.NIGHT] = land.night;
            words[Rule.ABOVE] = land.line[ahead];
            words[Rule.BELOW] = land.line[behind];
            words[Rule.IN_WEST] = Integer.bitCount(westIn(sides) & strip.villagesIn[mile]);
            words[Rule.IN_EAST] = Integer.bitCount(eastIn(sides) & strip.villagesIn[mile]);
            // the mile itself is not baked, so it adds nothing where it stands in for a neighbour
            words[Rule.CRUST] = (land.baked >> ahead & 1) + (land.baked >> behind & 1);
        }

        private void sag(Land land) {
            for (int m = 0; m + 1 < strip.miles; m++) {
                int apart = land.line[m] - land.line[m + 1];
                if (apart > STEEPEST || apart < -STEEPEST) {
                    int nearer = apart > 0 ? -1 : 1;
                    land.line[m] += land.isBaked(m) ? 0 : nearer;
                    land.line[m + 1] -= land.isBaked(m + 1) ? 0 : nearer;
                }
            }
        }
    }

    /** All that an image holds. */
    private static final class World {
        Strip strip = new Strip();
        final Land land = new Land();
        int force = NONE;
        int x;
        int logs;
        final int[] logNight = new int[MOST_LOGS];
        final int[] logMile = new int[MOST_LOGS];
        final int[] logDough = new int[MOST_LOGS];
        /** A ring of lands, each as it was ahead of an act. */
        private final int[] past = new int[MOST_ACTS * Land.CELLS];
        private int oldest;
        int actCount;

        void copyFrom(World other) {
            strip = other.strip;
            land.copyFrom(other.land);
            force = other.force;
            x = other.x;
            logs = other.logs;
            System.arraycopy(other.logNight, 0, logNight, 0, MOST_LOGS);
            System.arraycopy(other.logMile, 0, logMile, 0, MOST_LOGS);
            System.arraycopy(other.logDough, 0, logDough, 0, MOST_LOGS);
            System.arraycopy(other.past, 0, past, 0, past.length);
            oldest = other.oldest;
            actCount = other.actCount;
        }

        void begin(Strip told) {
            strip = told;
            land.copyFrom(told.start);
            logs = 0;
            actCount = 0;
        }

        void addLog(int night, int mile, int dough) {
            if (logs < MOST_LOGS) {
                logNight[logs] = night;
                logMile[logs] = mile;
                logDough[logs] = dough;
                logs++;
            }
        }

        void remember() {
            if (actCount == MOST_ACTS) {
                oldest = (oldest + 1) % MOST_ACTS;
                actCount--;
            }
            land.writeTo(past, placeOf(actCount));
            actCount++;
        }

        void recall() {
            if (actCount > 0) {
                actCount--;
                land.readFrom(past, placeOf(actCount));
            }
        }

        private int placeOf(int act) {
            return (oldest + act) % MOST_ACTS * Land.CELLS;
        }
    }

    /** What nights to come will bring; the land that is asked about stays as it is. */
    private static final class Outlook {
        private static final int UNKNOWN = 0;
        private static final int CALM = 1;
        private static final int STIRRED = 2;

        private final Law law;
        private final Land trial = new Land();
        private final Land fork = new Land();
        /** By the first mile and the one behind the last: whether these stay calm. */
        private final int[] calm = new int[MOST_MILES * (MOST_MILES + 1)];
        int bestNight;
        int mostNights;
        int summerCrossings;
        int summerFeet;

        Outlook(Law law) {
            this.law = law;
        }

        Land landAfter(Land now, int n) {
            trial.copyFrom(now);
            for (int k = 0; k < n; k++) {
                law.pass(trial, Law.TOLD);
            }
            return trial;
        }

        int firstCrossing(Land now, int village) {
            trial.copyFrom(now);
            for (int k = 0; k < MOST_ASKED; k++) {
                int night = trial.night;
                if ((law.pass(trial, Law.TOLD) >> village & 1) != 0) {
                    return night;
                }
            }
            return CANNOT;
        }

        void seekCrust(Land now, int mile, int village, int n) {
            trial.copyFrom(now);
            bestNight = NONE;
            mostNights = -1;
            int home = 0;
            for (int k = 0; k < n; k++) {
                if (!now.isBaked(mile)) {
                    int bakedHome = home + nightsHome(mile, village, n - k);
                    if (bakedHome >= mostNights) {
                        mostNights = bakedHome;
                        bestNight = trial.night;
                    }
                }
                law.pass(trial, Law.TOLD);
                home += isHome(trial, village) ? 1 : 0;
            }
            if (home >= mostNights) {
                mostNights = home;
                bestNight = NONE;
            }
        }

        private int nightsHome(int mile, int village, int n) {
            fork.copyFrom(trial);
            fork.baked |= 1 << mile;
            int home = 0;
            for (int k = 0; k < n; k++) {
                law.pass(fork, Law.TOLD);
                home += isHome(fork, village) ? 1 : 0;
            }
            return home;
        }

        private boolean isHome(Land land, int village) {
            return law.strip.sideOf(land, village) == law.strip.villageOwner[village];
        }

        int peaceSet(Land now, int n) {
            Arrays.fill(calm, UNKNOWN);
            int sets = 1 << law.strip.miles;
            for (int size = 0; size <= law.strip.miles; size++) {
                for (int set = 0; set < sets; set++) {
                    boolean asked = Integer.bitCount(set) == size && (set & now.baked) == 0;
                    if (asked && isPeace(now, set, n)) {
                        return set;
                    }
                }
            }
            return NONE;
        }

        /** A baked mile lets nothing through, so the miles between two of them are looked at by themselves. */
        private boolean isPeace(Land now, int set, int n) {
            int miles = law.strip.miles;
            int baked = now.baked | set;
            int begin = 0;
            for (int m = 0; m <= miles; m++) {
                if (m == miles || (baked >> m & 1) != 0) {
                    if (begin < m && !isCalm(now, begin, m, n)) {
                        return false;
                    }
                    begin = m + 1;
                }
            }
            return true;
        }

        /** Whether no village in the miles from begin to ahead of end is crossed, if all others are baked. */
        private boolean isCalm(Land now, int begin, int end, int n) {
            int at = begin * (MOST_MILES + 1) + end;
            if (calm[at] == UNKNOWN) {
                trial.copyFrom(now);
                trial.baked = (1 << law.strip.miles) - 1 & ~((1 << end) - (1 << begin));
                int crossed = 0;
                for (int k = 0; k < n && crossed == 0; k++) {
                    crossed = law.pass(trial, Law.TOLD);
                }
                calm[at] = crossed == 0 ? CALM : STIRRED;
            }
            return calm[at] == CALM;
        }

        void drawSummers(World now, int times, int n) {
            summerCrossings = 0;
            summerFeet = 0;
            int x = now.x;
            for (int time = 0; time < times; time++) {
                trial.copyFrom(now.land);
                for (int k = 0; k < n; k++) {
                    x = (int) (x * 1103515245L + 12345L & 2147483647L);
                    summerCrossings += Integer.bitCount(law.pass(trial, x / 65536 % 10));
                }
                for (int m = 0; m < law.strip.miles; m++) {
                    summerFeet += Math.abs(trial.line[m] - now.land.line[m]);
                }
            }
        }
    }

    /** Pushes sought: for what villages want, and by two dukes against one another. */
    private static final class Contest {
        private static final int BEYOND = 100;

        private final Law law;
        private final Land[] lands = new Land[DUKE_NIGHTS + 1];
        final int[] row = new int[PUSH_NIGHTS];
        int firstPushed;

        Contest(Law law) {
            this.law = law;
            for (int k = 0; k < lands.length; k++) {
                lands[k] = new Land();
            }
        }

        /** How many pushes bring all that is wanted, and the first row of these; NONE if none can. */
        int fewestPushes(Land now, int n) {
            lands[0].copyFrom(now);
            for (int pushes = 0; pushes <= n; pushes++) {
                if (findRow(0, n, pushes)) {
                    return pushes;
                }
            }
            return NONE;
        }

        /** Seeks the first row with just so many pushes left, from this night on. */
        private boolean findRow(int night, int n, int pushes) {
            if (night >= n || night >= PUSH_NIGHTS) {
                return law.strip.hasItsWants(lands[night]);
            }
            if (pushes < n - night) {
                row[night] = NONE;
                goOn(night, 0, 0);
                if (findRow(night + 1, n, pushes)) {
                    return true;
                }
            }
            for (int choice = 0; pushes > 0 && choice < 2 * law.strip.miles; choice++) {
                if (!lands[night].isBaked(choice / 2)) {
                    row[night] = choice;
                    goOn(night, choice / 2, choice % 2 == 0 ? -2 : 2);
                    if (findRow(night + 1, n, pushes - 1)) {
                        return true;
                    }
                }
            }
            return false;
        }

        private void goOn(int night, int mile, int feet) {
            Land next = lands[night + 1];
            next.copyFrom(lands[night]);
            next.moveLine(mile, feet);
            law.pass(next, Law.TOLD);
        }

        int westGain(Land now, int n) {
            lands[0].copyFrom(now);
            return gain(0, n, -law.strip.villages, law.strip.villages);
        }

        /** The gain from this night on; of one outside low to high only that it lies outside is sure. */
        private int gain(int night, int n, int low, int high) {
            if (night >= n || night >= DUKE_NIGHTS) {
                int sides = law.strip.sidesOf(lands[night]);
                return Integer.bitCount(westIn(sides)) - Integer.bitCount(eastIn(sides));
            }
            int way = night % 2 == 0 ? 1 : -1;
            int best = -BEYOND * way;
            int bestMile = NONE;
            int floor = low;
            int roof = high;
            for (int mile = NONE; mile < law.strip.miles; mile++) {
                boolean none = mile == NONE;
                if (none || !lands[night].isBaked(mile)) {
                    goOn(night, none ? 0 : mile, none ? 0 : way);
                    int found = gain(night + 1, n, floor, roof);
                    if (found * way > best * way) {
                        best = found;
                        bestMile = mile;
                    }
                    floor = way > 0 ? Math.max(floor, best) : floor;
                    roof = way < 0 ? Math.min(roof, best) : roof;
                    if (floor >= roof) {
                        break;
                    }
                }
            }
            if (night == 0) {
                firstPushed = bestMile;
            }
            return best;
        }
    }

    /** The thefts that agree with all logs, by how the text told the strip. */
    private static final class Thefts {
        private static final int LOG_NIGHTS = LAST_LOG_NIGHT + 1;

        /** Dough of each mile at the begin of each night, if nothing was stolen. */
        private final int[] untouched = new int[MOST_MILES * LOG_NIGHTS];
        final int[] miles = new int[MOST_MILES * THEFT_NIGHTS];
        final int[] nights = new int[MOST_MILES * THEFT_NIGHTS];
        private final int[] alike = new int[MOST_DOUGH + 1];
        private Strip strip = new Strip();
        private int size;
        int count;
        int bestMile;
        int mostAlike;

        void find(World now, int stolen) {
            strip = now.strip;
            size = stolen;
            count = 0;
            fillUntouched();
            for (int mile = 0; mile < strip.miles; mile++) {
                for (int night = 0; night < THEFT_NIGHTS; night++) {
                    if (isPossible(mile, night) && agrees(now, mile, night)) {
                        miles[count] = mile;
                        nights[count] = night;
                        count++;
                    }
                }
            }
        }

        private void fillUntouched() {
            for (int mile = 0; mile < strip.miles; mile++) {
                int dough = strip.start.dough[mile];
                for (int night = 0; night < LOG_NIGHTS; night++) {
                    untouched[mile * LOG_NIGHTS + night] = dough;
                    dough = strip.start.isBaked(mile) ? dough : risen(dough, night);
                }
            }
        }

        private int risen(int dough, int night) {
            return Math.min(dough + strip.warmthOf(night), MOST_DOUGH);
        }

        private boolean isPossible(int mile, int night) {
            return !strip.start.isBaked(mile) && untouched[mile * LOG_NIGHTS + night] >= size;
        }

        private boolean agrees(World now, int mile, int night) {
            for (int k = 0; k < now.logs; k++) {
                int dough = doughBy(mile, night, now.logMile[k], now.logNight[k]);
                if (dough != now.logDough[k]) {
                    return false;
                }
            }
            return true;
        }

        /** Dough of a mile at the begin of a night, if it was stolen there and then. */
        private int doughBy(int thiefMile, int thiefNight, int mile, int night) {
            if (mile != thiefMile || night < thiefNight) {
                return untouched[mile * LOG_NIGHTS + night];
            }
            int dough = untouched[mile * LOG_NIGHTS + thiefNight] - size;
            for (int k = thiefNight; k < night; k++) {
                dough = risen(dough, k);
            }
            return dough;
        }

        /** Finds the mile by whose dough at the begin of a night the thefts found part best. */
        void sortBy(int night) {
            bestMile = NONE;
            mostAlike = count + 1;
            for (int mile = 0; mile < strip.miles; mile++) {
                int most = mostAlikeBy(mile, night);
                if (most < mostAlike) {
                    mostAlike = most;
                    bestMile = mile;
                }
            }
        }

        private int mostAlikeBy(int mile, int night) {
            Arrays.fill(alike, 0);
            int most = 0;
            for (int k = 0; k < count; k++) {
                int dough = held(doughBy(miles[k], nights[k], mile, night), 0, MOST_DOUGH);
                alike[dough]++;
                most = Math.max(most, alike[dough]);
            }
            return most;
        }
    }
}
