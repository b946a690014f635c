import java.util.Arrays;

/** One lamp a night: a row of lamps of which each night one is changed, so that no picture comes twice. */
public final class OneLamp {
    public static final int BAD = -1, NOT = -2, FULL = -3, STATE = -5, VOID = -2000000000;

    private static final int NOTHING_THERE = -11, OTHER_KIND = -12, NO_PLACE = -13, SIZE_BELOW_0 = -14;
    private static final int MOST_LAMPS = 10, MOST_BODIES = 50, MOST_ELEMENTS = 60, SHELVES = 6;
    private static final int SHORTS = 1;
    private static final long NIGHTS_IN_ALL = 1L << 62;

    private final Wall wall;
    private final Wall imageOfWall;
    private boolean imageIsKept;
    private final Rules rules;
    private final Tape tape;
    private final Costs costs;
    private final Thought thought;
    private final Acts acts;
    private final Shelf[] shelves;

    public OneLamp() {
        wall = new Wall();
        imageOfWall = new Wall();
        rules = new Rules();
        tape = new Tape();
        costs = new Costs();
        thought = new Thought();
        acts = new Acts();
        shelves = new Shelf[SHELVES];
        for (int k = 0; k < SHELVES; k++) {
            shelves[k] = new Shelf();
        }
    }

    // ---- the wall

    public int lamps(int n) {
        if (n < 1 || n > MOST_LAMPS) {
            return BAD;
        }
        int before = wall.lamps;
        wall.lamps = n;
        wall.told.empty();
        wall.startAt(0);
        return before;
    }

    public int begin(int picture) {
        if (!wall.hasPicture(picture)) {
            return BAD;
        }
        wall.startAt(picture);
        return picture;
    }

    public int bar(int picture) {
        if (!wall.hasPicture(picture)) {
            return BAD;
        }
        if (wall.told.holds(picture)) {
            return 0;
        }
        wall.told.add(picture);
        return 1;
    }

    public int bars(int shelf, int i, int n) {
        if (!isShelf(shelf) || n < 1 || n > 30) {
            return BAD;
        }
        Shelf from = shelves[shelf];
        if (from.isEmpty()) {
            return 0;
        }
        if (!from.isRowOf(SHORTS)) {
            return OTHER_KIND;
        }
        for (int k = 0; k < n; k++) {
            if (!from.hasPlace(i) || !from.hasPlace(i + k)) {
                return k;
            }
            int picture = (int) from.elementAt(i + k);
            if (!wall.hasPicture(picture)) {
                return k;
            }
            wall.told.add(picture);
        }
        return n;
    }

    public int feed(int letter) {
        if (letter < 0 || letter > 255) {
            return BAD;
        }
        return tape.add(letter) ? tape.length : FULL;
    }

    public int law() {
        int fault = tape.read();
        if (fault == Tape.NO_FAULT) {
            rules.takeLaw(tape.code, tape.codeLength);
        }
        tape.length = 0;
        return fault == Tape.NO_FAULT ? 1 : -100 - fault;
    }

    public int set(int what, int v) {
        if (what < 0 || what > 1 || v < 0 || v > (what == 0 ? 9 : 1)) {
            return BAD;
        }
        int before = what == 0 ? rules.rest : rules.shy;
        if (what == 0) {
            rules.rest = v;
        } else {
            rules.shy = v;
        }
        return before;
    }

    public int cost(int lamp, int v) {
        if (lamp < 0 || lamp >= MOST_LAMPS || v < 0 || v > 9) {
            return BAD;
        }
        int before = costs.of(lamp);
        costs.tell(lamp, v);
        return before;
    }

    public int now(int what) {
        switch (what) {
            case 0: return wall.lamps;
            case 1: return wall.picture;
            case 2: return wall.night;
            case 3: return wall.had.size();
            case 4: return wall.spent;
            case 5: return costs.leastFor(wall.lamps);
            case 6: return rules.rest;
            case 7: return rules.shy;
            default: return BAD;
        }
    }

    public int picture(int picture, int what) {
        if (!wall.hasPicture(picture) || what < 0 || what > 1) {
            return BAD;
        }
        boolean is = what == 0 ? wall.had.holds(picture) : rules.isBarred(wall, picture);
        return is ? 1 : 0;
    }

    public int lamp(int lamp, int what) {
        if (!wall.hasLamp(lamp)) {
            return BAD;
        }
        switch (what) {
            case 0: return costs.of(lamp);
            case 1: return wall.oftenOf(lamp);
            case 2: return wall.lastOf(lamp);
            default: return BAD;
        }
    }

    // ---- nights

    public int may() {
        int bits = 0;
        for (int lamp = 0; lamp < wall.lamps; lamp++) {
            if (rules.allow(wall, lamp)) {
                bits |= 1 << lamp;
            }
        }
        return bits;
    }

    public int change(int lamp) {
        if (!wall.hasLamp(lamp)) {
            return BAD;
        }
        if (!rules.allow(wall, lamp)) {
            return NOT;
        }
        wall.step(lamp);
        wall.pay(lamp, costs.of(lamp));
        return wall.picture;
    }

    public int longest(int i) {
        if (i < -1) {
            return BAD;
        }
        if (wall.lamps > Thought.THINKABLE_LAMPS) {
            return STATE;
        }
        int nights = thought.longestFrom(wall, rules);
        if (i == -1) {
            return nights;
        }
        return i < nights ? thought.lampOfBest(i) : BAD;
    }

    public int wished(int t) {
        if (t < 0 || t > 15) {
            return BAD;
        }
        if (wall.lamps > Thought.THINKABLE_LAMPS) {
            return STATE;
        }
        return thought.wishedFrom(wall, rules, t);
    }

    public int game(int what) {
        if (what < 0 || what > 1) {
            return BAD;
        }
        if (wall.lamps > Thought.THINKABLE_LAMPS) {
            return STATE;
        }
        int lamp = thought.gameFrom(wall, rules);
        if (what == 1) {
            return lamp;
        }
        return lamp == NOT ? 0 : 1;
    }

    public int ways(int picture, int m) {
        if (!wall.hasPicture(picture) || m < 0 || m > 5) {
            return BAD;
        }
        return thought.waysFrom(wall, rules, picture, m);
    }

    public int judge(int shelf) {
        if (!isShelf(shelf)) {
            return BAD;
        }
        Shelf log = shelves[shelf];
        if (log.isEmpty()) {
            return NOTHING_THERE;
        }
        if (!log.isRowOf(SHORTS)) {
            return OTHER_KIND;
        }
        return thought.firstWrong(wall, rules, log);
    }

    // ---- by law

    public long mirror(long v, int what) {
        if (v < 0 || v >= NIGHTS_IN_ALL) {
            return BAD;
        }
        switch (what) {
            case 0: return v ^ (v >> 1);
            case 1: return nightOf(v);
            case 2: return lampOf(v);
            default: return BAD;
        }
    }

    public int several(int si, long night) {
        int states = si / 100;
        int lamp = si % 100;
        if (states < 2 || states > 9 || lamp < 0 || lamp > 30 || night < 0 || night >= NIGHTS_IN_ALL) {
            return BAD;
        }
        long q = night;
        for (int k = 0; k < lamp; k++) {
            q /= states;
        }
        int r = (int) (q % (2 * states));
        return r < states ? r : 2 * states - 1 - r;
    }

    public int through(int a, int b, int i) {
        if (!wall.hasPicture(a) || !wall.hasPicture(b) || i < -1 || i > (1 << wall.lamps) - 2) {
            return BAD;
        }
        boolean isWay = Integer.bitCount(a ^ b) % 2 == 1;
        if (i == -1) {
            return isWay ? 1 : 0;
        }
        if (wall.lamps > Thought.THINKABLE_LAMPS) {
            return STATE;
        }
        if (!isWay) {
            return NOT;
        }
        return thought.lampThrough(wall.lamps, a, b, i);
    }

    public int image() {
        imageOfWall.become(wall);
        imageIsKept = true;
        return wall.night;
    }

    public int back() {
        if (!imageIsKept) {
            return STATE;
        }
        wall.become(imageOfWall);
        return wall.night;
    }

    public int undo() {
        return costs.takeBack() ? costs.done : STATE;
    }

    public int redo() {
        return costs.doAgain() ? costs.undone : STATE;
    }

    // ---- acts, shelves

    public int body(int kind) {
        if (!Acts.isKind(kind)) {
            return BAD;
        }
        return acts.add(kind) ? acts.bodies - 1 : FULL;
    }

    public int act(int body, int act, int x) {
        return acts.perform(body, act, x);
    }

    public int trace(int i) {
        return acts.isTraced(i) ? acts.traceAt(i) : BAD;
    }

    public int keep(int shelf, int body) {
        if (!isShelf(shelf) || (body != -1 && !acts.isBody(body))) {
            return BAD;
        }
        if (body == -1) {
            shelves[shelf].holdNothing();
        } else {
            shelves[shelf].holdBody(body);
        }
        return 1;
    }

    public int row(int shelf, int sort, int n) {
        if (!isShelf(shelf) || sort < 0 || sort > 4 || n > MOST_ELEMENTS) {
            return BAD;
        }
        if (n < 0) {
            return SIZE_BELOW_0;
        }
        shelves[shelf].holdRow(sort, n);
        return 1;
    }

    public int put(int shelf, int i, long v) {
        int refusal = elementRefusal(shelf, i);
        if (refusal != 0) {
            return refusal;
        }
        shelves[shelf].write(i, v);
        return 1;
    }

    public long element(int shelf, int i) {
        return elementRefusal(shelf, i) == 0 ? shelves[shelf].elementAt(i) : Long.MIN_VALUE;
    }

    public int shift(int shelf, int i, int other, int j, int n) {
        if (!isShelf(shelf) || !isShelf(other)) {
            return BAD;
        }
        Shelf from = shelves[shelf];
        Shelf to = shelves[other];
        if (from.isEmpty() || to.isEmpty()) {
            return NOTHING_THERE;
        }
        if (!from.isRow() || !to.isRowOf(from.sort)) {
            return OTHER_KIND;
        }
        if (!from.hasPlaces(i, n) || !to.hasPlaces(j, n)) {
            return NO_PLACE;
        }
        to.take(from, i, j, n);
        return n;
    }

    public int taken(int shelf, int k) {
        if (!isShelf(shelf) || !Acts.isKind(k)) {
            return BAD;
        }
        Shelf from = shelves[shelf];
        if (from.isEmpty()) {
            return NOTHING_THERE;
        }
        if (!from.isBody()) {
            return OTHER_KIND;
        }
        int kind = acts.kindOf(from.body);
        return Acts.isUnder(kind, k) ? kind : OTHER_KIND;
    }

    public int count(int what) {
        switch (what) {
            case 0: return wall.told.size();
            case 1: return tape.length;
            case 2: return costs.done;
            case 3: return acts.bodies;
            case 4: return acts.ran;
            default: return BAD;
        }
    }

    // ---- help for the calls above

    private static boolean isShelf(int shelf) {
        return shelf >= 0 && shelf < SHELVES;
    }

    private int elementRefusal(int shelf, int i) {
        if (!isShelf(shelf)) {
            return BAD;
        }
        if (shelves[shelf].isEmpty()) {
            return NOTHING_THERE;
        }
        if (!shelves[shelf].isRow()) {
            return OTHER_KIND;
        }
        return shelves[shelf].hasPlace(i) ? 0 : NO_PLACE;
    }

    private static long nightOf(long picture) {
        long night = picture;
        for (int by = 1; by < 64; by *= 2) {
            night ^= night >> by;
        }
        return night;
    }

    private static int lampOf(long night) {
        for (int lamp = 0; lamp < 62; lamp++) {
            if (((night >> lamp) & 1) == 1) {
                return lamp;
            }
        }
        return NOT;
    }

    /** Bits and not a row of booleans: an image and every thought copy such a set. */
    private static final class Pictures {
        private static final int MOST = 1 << MOST_LAMPS;

        private final long[] words;

        Pictures() {
            words = new long[MOST / 64];
        }

        private static boolean fits(int picture) {
            return picture >= 0 && picture < MOST;
        }

        boolean holds(int picture) {
            return fits(picture) && (words[picture / 64] >> (picture % 64) & 1) == 1;
        }

        void add(int picture) {
            if (fits(picture)) {
                words[picture / 64] |= 1L << (picture % 64);
            }
        }

        void remove(int picture) {
            if (fits(picture)) {
                words[picture / 64] &= ~(1L << (picture % 64));
            }
        }

        void empty() {
            Arrays.fill(words, 0L);
        }

        void become(Pictures other) {
            System.arraycopy(other.words, 0, words, 0, words.length);
        }

        int size() {
            int size = 0;
            for (long word : words) {
                size += Long.bitCount(word);
            }
            return size;
        }

        /** As many as four lamps have: thought works on them as bits of one number. */
        int firstSixteen() {
            return (int) (words[0] & 0xFFFF);
        }
    }

    /** All that an image keeps and nothing else, so that keeping one and going back is one copy. */
    private static final class Wall {
        int lamps;
        int picture;
        int night;
        int spent;
        final Pictures had;
        final Pictures told;
        private final int[] last;
        private final int[] often;

        Wall() {
            lamps = 3;
            had = new Pictures();
            told = new Pictures();
            last = new int[MOST_LAMPS];
            often = new int[MOST_LAMPS];
            startAt(0);
        }

        boolean hasPicture(int number) {
            return number >= 0 && number < (1 << lamps);
        }

        boolean hasLamp(int lamp) {
            return lamp >= 0 && lamp < lamps && lamp < MOST_LAMPS;
        }

        void startAt(int first) {
            picture = first;
            night = 0;
            spent = 0;
            had.empty();
            had.add(first);
            Arrays.fill(last, NOT);
            Arrays.fill(often, 0);
        }

        void become(Wall other) {
            lamps = other.lamps;
            picture = other.picture;
            night = other.night;
            spent = other.spent;
            had.become(other.had);
            told.become(other.told);
            System.arraycopy(other.last, 0, last, 0, MOST_LAMPS);
            System.arraycopy(other.often, 0, often, 0, MOST_LAMPS);
        }

        int lastOf(int lamp) {
            return hasLamp(lamp) ? last[lamp] : NOT;
        }

        int oftenOf(int lamp) {
            return hasLamp(lamp) ? often[lamp] : 0;
        }

        void step(int lamp) {
            if (hasLamp(lamp)) {
                picture ^= 1 << lamp;
                night++;
                last[lamp] = night;
                had.add(picture);
            }
        }

        void stepBack(int lamp, int lastBefore) {
            if (hasLamp(lamp)) {
                had.remove(picture);
                picture ^= 1 << lamp;
                night--;
                last[lamp] = lastBefore;
            }
        }

        void pay(int lamp, int price) {
            if (hasLamp(lamp)) {
                often[lamp]++;
                spent += price;
            }
        }
    }

    /** What stays when a wall begins anew; deeds, thoughts and judgements all ask here whether a lamp may be changed. */
    private static final class Rules {
        int rest;
        int shy;
        private final Law law;
        /** What the law said of pictures so far: long searches ask for the same ones again. */
        private final Pictures asked;
        private final Pictures forbidden;
        private int askedForLamps;

        Rules() {
            law = new Law();
            asked = new Pictures();
            forbidden = new Pictures();
        }

        void takeLaw(int[] code, int length) {
            law.become(code, length);
            asked.empty();
        }

        boolean isBarred(Wall wall, int picture) {
            if (wall.lamps != askedForLamps) {
                asked.empty();
                askedForLamps = wall.lamps;
            }
            if (!asked.holds(picture)) {
                asked.add(picture);
                forbidden.remove(picture);
                if (law.valueOf(picture, wall.lamps) != 0) {
                    forbidden.add(picture);
                }
            }
            return wall.told.holds(picture) || forbidden.holds(picture);
        }

        boolean allow(Wall wall, int lamp) {
            if (!wall.hasLamp(lamp) || isResting(wall, lamp)) {
                return false;
            }
            int next = wall.picture ^ (1 << lamp);
            if (wall.had.holds(next) || isBarred(wall, next)) {
                return false;
            }
            return shy == 0 || !isBesideOneHad(wall, next);
        }

        private boolean isResting(Wall wall, int lamp) {
            int last = wall.lastOf(lamp);
            return last != NOT && wall.night + 1 - last <= rest;
        }

        private static boolean isBesideOneHad(Wall wall, int next) {
            for (int lamp = 0; lamp < wall.lamps; lamp++) {
                int beside = next ^ (1 << lamp);
                if (beside != wall.picture && wall.had.holds(beside)) {
                    return true;
                }
            }
            return false;
        }
    }

    /** Signs of a law's code: a number from 0 on stands for itself, what is below 0 for what is to be done. */
    private static final class Sign {
        static final int PICTURE = -'p', LIT = -'l', LAMPS = -'n', HIGHEST = -'h';
        static final int OR = -'|', AND = -'&', LESS = -'<', SAME = -'=', MORE = -'>';
        static final int PLUS = -'+', MINUS = -'-', TIMES = -'*', BY = -'/', REMAINDER = -'%';
        static final int NO = -'!', NEGATED = -'~', IF = -'?', END = -';';

        static boolean takesOperands(int sign) {
            return sign == NO || sign == NEGATED || joins(sign);
        }

        static boolean joins(int sign) {
            switch (sign) {
                case OR: case AND: case LESS: case SAME: case MORE:
                case PLUS: case MINUS: case TIMES: case BY: case REMAINDER: return true;
                default: return false;
            }
        }
    }

    /** Letters on their way to a law: the text is read once, into code where operands stand ahead of what joins them. */
    private static final class Tape {
        static final int NO_FAULT = -1;
        private static final int MOST_LETTERS = 120, MOST_OPEN = 6, MOST_DIGITS = 4;
        private static final int LOOSEST = 0, RELATION = 2, TIGHTEST = 4, NO_LEVEL = -1;

        private final int[] letters;
        int length;
        final int[] code;
        int codeLength;
        private int at;

        Tape() {
            letters = new int[MOST_LETTERS];
            code = new int[Law.MOST_CODE];
        }

        boolean add(int letter) {
            if (length < 0 || length >= MOST_LETTERS) {
                return false;
            }
            letters[length] = letter;
            length++;
            return true;
        }

        /** The place of the fault, or NO_FAULT. */
        int read() {
            at = 0;
            codeLength = 0;
            for (int lines = 0; lines <= MOST_LETTERS; lines++) {
                if (!readLine()) {
                    return at;
                }
                if (at == length) {
                    return NO_FAULT;
                }
                if (letter() != ';') {
                    return at;
                }
                at++;
            }
            return at;
        }

        private boolean readLine() {
            if (!readLevel(this, LOOSEST, 0)) {
                return false;
            }
            if (letter() == '?') {
                at++;
                write(Sign.IF);
                if (!readLevel(this, LOOSEST, 0)) {
                    return false;
                }
            }
            write(Sign.END);
            return true;
        }

        /** The letter that comes, or -1 behind the last. */
        private int letter() {
            return at >= 0 && at < length && at < MOST_LETTERS ? letters[at] : -1;
        }

        private void write(int sign) {
            if (codeLength >= 0 && codeLength < code.length) {
                code[codeLength] = sign;
                codeLength++;
            }
        }

        /** How tightly a letter joins what stands at its sides. */
        private static int levelOf(int letter) {
            switch (letter) {
                case '|': return LOOSEST;
                case '&': return 1;
                case '<': case '=': case '>': return RELATION;
                case '+': case '-': return 3;
                case '*': case '/': case '%': return TIGHTEST;
                default: return NO_LEVEL;
            }
        }

        private static boolean readLevel(Tape tape, int level, int open) {
            if (level > TIGHTEST) {
                return readOperand(tape, open);
            }
            if (!readLevel(tape, level + 1, open)) {
                return false;
            }
            int most = level == RELATION ? 1 : MOST_LETTERS;
            for (int joined = 0; joined < most && levelOf(tape.letter()) == level; joined++) {
                int joining = tape.letter();
                tape.at++;
                if (!readLevel(tape, level + 1, open)) {
                    return false;
                }
                tape.write(-joining);
            }
            return true;
        }

        private static boolean readOperand(Tape tape, int open) {
            int letter = tape.letter();
            if (isDigit(letter)) {
                tape.readNumber();
                return true;
            }
            if (letter == 'p' || letter == 'l' || letter == 'n' || letter == 'h') {
                tape.write(-letter);
                tape.at++;
                return true;
            }
            if (open >= MOST_OPEN || letter != '(' && letter != '!' && letter != '-') {
                return false;
            }
            tape.at++;
            if (letter == '(') {
                if (!readLevel(tape, LOOSEST, open + 1) || tape.letter() != ')') {
                    return false;
                }
                tape.at++;
                return true;
            }
            if (!readOperand(tape, open + 1)) {
                return false;
            }
            tape.write(letter == '!' ? Sign.NO : Sign.NEGATED);
            return true;
        }

        private void readNumber() {
            int number = 0;
            for (int digits = 0; digits < MOST_DIGITS && isDigit(letter()); digits++) {
                number = number * 10 + letter() - '0';
                at++;
            }
            write(number);
        }

        private static boolean isDigit(int letter) {
            return letter >= '0' && letter <= '9';
        }
    }

    /** The law's code. Without a text there is none, and nothing is forbidden. */
    private static final class Law {
        static final int MOST_CODE = 256;

        private final int[] code;
        private int length;
        private final int[] stack;
        private int top;

        Law() {
            code = new int[MOST_CODE];
            stack = new int[MOST_CODE];
        }

        void become(int[] newCode, int newLength) {
            if (newLength >= 0 && newLength <= MOST_CODE && newLength <= newCode.length) {
                System.arraycopy(newCode, 0, code, 0, newLength);
                length = newLength;
            }
        }

        int valueOf(int picture, int lamps) {
            top = 0;
            boolean lineCounts = true;
            for (int k = 0; k < length && k < MOST_CODE; k++) {
                int sign = code[k];
                if (sign == Sign.END && lineCounts) {
                    return pop();
                }
                if (sign == Sign.END) {
                    lineCounts = true;
                } else if (sign == Sign.IF && lineCounts) {
                    lineCounts = pop() != 0;
                } else if (lineCounts) {
                    int right = Sign.takesOperands(sign) ? pop() : 0;
                    int left = Sign.joins(sign) ? pop() : 0;
                    push(Sign.takesOperands(sign) ? worked(sign, left, right) : operand(sign, picture, lamps));
                }
            }
            return 0;
        }

        private static int operand(int sign, int picture, int lamps) {
            switch (sign) {
                case Sign.PICTURE: return picture;
                case Sign.LIT: return Integer.bitCount(picture);
                case Sign.LAMPS: return lamps;
                case Sign.HIGHEST: return highestOf(picture);
                default: return sign;
            }
        }

        private static int worked(int sign, int a, int b) {
            switch (sign) {
                case Sign.OR: return a != 0 || b != 0 ? 1 : 0;
                case Sign.AND: return a != 0 && b != 0 ? 1 : 0;
                case Sign.LESS: return a < b ? 1 : 0;
                case Sign.SAME: return a == b ? 1 : 0;
                case Sign.MORE: return a > b ? 1 : 0;
                case Sign.PLUS: return a + b;
                case Sign.MINUS: return a - b;
                case Sign.TIMES: return a * b;
                case Sign.BY: return b == 0 ? 0 : a / b;
                case Sign.REMAINDER: return b == 0 ? 0 : a % b;
                case Sign.NO: return b == 0 ? 1 : 0;
                case Sign.NEGATED: return -b;
                default: return 0;
            }
        }

        /** The greatest lamp that is lit, and 1. */
        private static int highestOf(int picture) {
            for (int lamp = MOST_LAMPS; lamp > 0; lamp--) {
                if ((picture >> (lamp - 1) & 1) == 1) {
                    return lamp;
                }
            }
            return 0;
        }

        private void push(int value) {
            if (top >= 0 && top < MOST_CODE) {
                stack[top] = value;
                top++;
            }
        }

        private int pop() {
            if (top <= 0 || top > MOST_CODE) {
                return 0;
            }
            top--;
            return stack[top];
        }
    }

    /** Costs, and their changes: what is undone stays behind the done ones until another change comes. */
    private static final class Costs {
        private static final int MOST_CHANGES = 40;

        private final int[] prices;
        private final int[] lamps;
        private final int[] before;
        private final int[] after;
        private final int[] sorted;
        int done;
        int undone;

        Costs() {
            prices = new int[MOST_LAMPS];
            Arrays.fill(prices, 1);
            lamps = new int[MOST_CHANGES];
            before = new int[MOST_CHANGES];
            after = new int[MOST_CHANGES];
            sorted = new int[MOST_LAMPS];
        }

        int of(int lamp) {
            return lamp >= 0 && lamp < MOST_LAMPS ? prices[lamp] : 0;
        }

        private void price(int lamp, int v) {
            if (lamp >= 0 && lamp < MOST_LAMPS) {
                prices[lamp] = v;
            }
        }

        void tell(int lamp, int v) {
            int old = of(lamp);
            if (v == old) {
                return;
            }
            undone = 0;
            if (done >= MOST_CHANGES) {
                dropOldest();
            }
            if (done >= 0 && done < MOST_CHANGES) {
                lamps[done] = lamp;
                before[done] = old;
                after[done] = v;
                done++;
            }
            price(lamp, v);
        }

        private void dropOldest() {
            done = MOST_CHANGES - 1;
            System.arraycopy(lamps, 1, lamps, 0, done);
            System.arraycopy(before, 1, before, 0, done);
            System.arraycopy(after, 1, after, 0, done);
        }

        boolean takeBack() {
            if (done <= 0 || done > MOST_CHANGES) {
                return false;
            }
            done--;
            undone++;
            price(lamps[done], before[done]);
            return true;
        }

        boolean doAgain() {
            if (undone <= 0 || done < 0 || done >= MOST_CHANGES) {
                return false;
            }
            price(lamps[done], after[done]);
            done++;
            undone--;
            return true;
        }

        /** Place 0 of the mirror way is changed most often: the cheapest lamp stands there, the dearest last. */
        int leastFor(int n) {
            if (n < 1 || n > MOST_LAMPS) {
                return 0;
            }
            for (int k = 0; k < n; k++) {
                int place = k;
                for (; place > 0 && sorted[place - 1] > prices[k]; place--) {
                    sorted[place] = sorted[place - 1];
                }
                sorted[place] = prices[k];
            }
            int least = 0;
            for (int place = 0; place < n; place++) {
                least += sorted[place] << (n - 1 - place);
            }
            return least;
        }
    }

    /** Searches and judgements: they go their nights on a wall of their own, so that the true one stays as it is. */
    private static final class Thought {
        static final int THINKABLE_LAMPS = 4;
        private static final int MOST_NIGHTS = 15;
        /** The pictures of four lamps of which an even number is lit. */
        private static final int EVENLY_LIT = 0x9669;

        private final Wall wall;
        private final int[] way;
        private final int[] best;
        private int bestLength;
        private int open;
        private int found;

        Thought() {
            wall = new Wall();
            way = new int[MOST_NIGHTS];
            best = new int[MOST_NIGHTS];
        }

        int lampOfBest(int i) {
            return i >= 0 && i < bestLength && i < MOST_NIGHTS ? best[i] : NOT;
        }

        int longestFrom(Wall now, Rules rules) {
            beginSearch(now, rules);
            bestLength = 0;
            seekLongest(this, rules, 0);
            return bestLength;
        }

        int wishedFrom(Wall now, Rules rules, int nights) {
            beginSearch(now, rules);
            found = 0;
            seekWished(this, rules, nights);
            return found;
        }

        /** The first lamp by which who begins wins, or NOT. */
        int gameFrom(Wall now, Rules rules) {
            beginSearch(now, rules);
            return seekWin(this, rules, 0);
        }

        int waysFrom(Wall now, Rules rules, int goal, int nights) {
            wall.become(now);
            return countWays(this, rules, goal, nights);
        }

        int firstWrong(Wall now, Rules rules, Shelf log) {
            wall.become(now);
            for (int place = 0; place < log.length; place++) {
                int picture = (int) log.elementAt(place);
                if (!wall.hasPicture(picture) || rules.isBarred(wall, picture)) {
                    return place;
                }
                if (place == 0) {
                    wall.startAt(picture);
                } else {
                    int lamp = lampUnlike(picture);
                    if (!rules.allow(wall, lamp)) {
                        return place;
                    }
                    wall.step(lamp);
                }
            }
            return NOT;
        }

        int lampThrough(int lamps, int a, int b, int i) {
            wall.lamps = lamps;
            seekThrough(this, a, b, 1 << a, 0);
            return i >= 0 && i < MOST_NIGHTS ? way[i] : BAD;
        }

        private void beginSearch(Wall now, Rules rules) {
            wall.become(now);
            open = 0;
            for (int picture = 0; wall.hasPicture(picture) && picture < 16; picture++) {
                if (!rules.isBarred(wall, picture)) {
                    open |= 1 << picture;
                }
            }
        }

        /** The one lamp in which a picture is unlike the wall's; NOT, if it is not just one. */
        private int lampUnlike(int picture) {
            for (int lamp = 0; lamp < wall.lamps; lamp++) {
                if ((wall.picture ^ picture) == (1 << lamp)) {
                    return lamp;
                }
            }
            return NOT;
        }

        private static int besides(int pictures) {
            return (pictures & 0x5555) << 1 | (pictures >> 1) & 0x5555
                | (pictures & 0x3333) << 2 | (pictures >> 2) & 0x3333
                | (pictures & 0x0F0F) << 4 | (pictures >> 4) & 0x0F0F
                | (pictures & 0x00FF) << 8 | (pictures >> 8) & 0x00FF;
        }

        /** Free pictures to which free ones lead: no way goes beyond them. */
        private int reachable() {
            int free = open & ~wall.had.firstSixteen();
            int reached = besides(1 << wall.picture) & free;
            for (int k = 0; k < MOST_NIGHTS; k++) {
                int more = (reached | besides(reached)) & free;
                if (more == reached) {
                    break;
                }
                reached = more;
            }
            return reached;
        }

        /** Pictures evenly and oddly lit come by turns: so no way through these is longer. */
        private int mostNightsThrough(int pictures) {
            int even = Integer.bitCount(pictures & EVENLY_LIT);
            int odd = Integer.bitCount(pictures & ~EVENLY_LIT);
            boolean isEven = Integer.bitCount(wall.picture) % 2 == 0;
            int like = isEven ? even : odd;
            int unlike = isEven ? odd : even;
            return unlike > like ? 2 * like + 1 : 2 * unlike;
        }

        private static void seekLongest(Thought t, Rules rules, int depth) {
            if (depth > t.bestLength && depth <= MOST_NIGHTS) {
                System.arraycopy(t.way, 0, t.best, 0, depth);
                t.bestLength = depth;
            }
            if (depth >= MOST_NIGHTS || depth + t.mostNightsThrough(t.reachable()) <= t.bestLength) {
                return;
            }
            for (int lamp = 0; lamp < t.wall.lamps; lamp++) {
                if (rules.allow(t.wall, lamp)) {
                    int last = t.wall.lastOf(lamp);
                    t.way[depth] = lamp;
                    t.wall.step(lamp);
                    seekLongest(t, rules, depth + 1);
                    t.wall.stepBack(lamp, last);
                }
            }
        }

        private static void seekWished(Thought t, Rules rules, int nights) {
            if (nights <= 0) {
                t.found |= 1 << t.wall.picture;
                return;
            }
            if (!t.canFindMore(nights)) {
                return;
            }
            for (int lamp = 0; lamp < t.wall.lamps; lamp++) {
                if (rules.allow(t.wall, lamp)) {
                    int last = t.wall.lastOf(lamp);
                    t.wall.step(lamp);
                    seekWished(t, rules, nights - 1);
                    t.wall.stepBack(lamp, last);
                }
            }
        }

        private boolean canFindMore(int nights) {
            int pictures = reachable();
            boolean endsEven = (Integer.bitCount(wall.picture) + nights) % 2 == 0;
            int ends = pictures & (endsEven ? EVENLY_LIT : ~EVENLY_LIT);
            return (ends & ~found) != 0 && mostNightsThrough(pictures) >= nights;
        }

        private static int seekWin(Thought t, Rules rules, int depth) {
            if (depth > MOST_NIGHTS) {
                return NOT;
            }
            for (int lamp = 0; lamp < t.wall.lamps; lamp++) {
                if (rules.allow(t.wall, lamp)) {
                    int last = t.wall.lastOf(lamp);
                    t.wall.step(lamp);
                    boolean wins = seekWin(t, rules, depth + 1) == NOT;
                    t.wall.stepBack(lamp, last);
                    if (wins) {
                        return lamp;
                    }
                }
            }
            return NOT;
        }

        private static int countWays(Thought t, Rules rules, int goal, int nights) {
            int unlike = Integer.bitCount(t.wall.picture ^ goal);
            if (nights <= 0 || unlike > nights) {
                return unlike == 0 ? 1 : 0;
            }
            int ways = 0;
            for (int lamp = 0; lamp < t.wall.lamps; lamp++) {
                if (rules.allow(t.wall, lamp)) {
                    int last = t.wall.lastOf(lamp);
                    t.wall.step(lamp);
                    ways += countWays(t, rules, goal, nights - 1);
                    t.wall.stepBack(lamp, last);
                }
            }
            return ways;
        }

        private static boolean seekThrough(Thought t, int picture, int goal, int seen, int depth) {
            int all = (1 << (1 << t.wall.lamps)) - 1;
            if (picture == goal || depth >= MOST_NIGHTS) {
                return picture == goal && seen == all;
            }
            for (int lamp = 0; lamp < t.wall.lamps; lamp++) {
                int next = picture ^ (1 << lamp);
                if (((seen >> next) & 1) == 0) {
                    t.way[depth] = lamp;
                    if (seekThrough(t, next, goal, seen | (1 << next), depth + 1)) {
                        return true;
                    }
                }
            }
            return false;
        }
    }

    /** Bodies as numbers of their kinds: tables say what a kind has of its own and what is above it. */
    private static final class Acts {
        private static final int KINDS = 8, MOST_TRACED = 24, MOST_DEEP = 40;
        private static final int LIGHTS = 0, SHOWS = 1, RESTS = 2, TELLS = 3;
        private static final int NONE = 0, NO_KIND = -1;
        private static final int[] ABOVE = {-1, 0, 0, 2, 1, 4, 0, 6};
        /** For each act a row: the body that each kind has of its own. What interfaces give stands at kind 0. */
        private static final int[] BODY_OF = {
            1, 20, 0, 0, 0, 0, 70, 81,
            10, 0, 30, 41, 0, 0, 0, 80,
            11, 0, 0, 40, 0, 60, 0, 0,
            2, 0, 0, 0, 50, 61, 0, 0,
        };

        private final int[] kinds;
        int bodies;
        private final int[] trace;
        int ran;
        private int number;

        Acts() {
            kinds = new int[MOST_BODIES];
            trace = new int[MOST_TRACED];
        }

        static boolean isKind(int kind) {
            return kind >= 0 && kind < KINDS;
        }

        static boolean isUnder(int kind, int top) {
            int at = kind;
            for (int k = 0; k < KINDS && isKind(at); k++) {
                if (at == top) {
                    return true;
                }
                at = ABOVE[at];
            }
            return false;
        }

        boolean isBody(int body) {
            return body >= 0 && body < bodies && body < MOST_BODIES;
        }

        int kindOf(int body) {
            return isBody(body) ? kinds[body] : NO_KIND;
        }

        boolean add(int kind) {
            if (bodies < 0 || bodies >= MOST_BODIES) {
                return false;
            }
            kinds[bodies] = kind;
            bodies++;
            return true;
        }

        boolean isTraced(int i) {
            return i >= 0 && i < ran && i < MOST_TRACED;
        }

        int traceAt(int i) {
            return isTraced(i) ? trace[i] : NONE;
        }

        int perform(int body, int act, int x) {
            ran = 0;
            if (!isBody(body) || act < LIGHTS || act > TELLS) {
                return 0;
            }
            number = body;
            return run(this, act, kinds[body], x, 0);
        }

        private void note(int code) {
            if (ran >= 0 && ran < MOST_TRACED) {
                trace[ran] = code;
            }
            ran++;
        }

        private static int bodyOf(int act, int kind) {
            int at = act * KINDS + kind;
            return isKind(kind) && at >= 0 && at < BODY_OF.length ? BODY_OF[at] : NONE;
        }

        private static int holderOf(int act, int kind) {
            int at = kind;
            for (int k = 0; k < KINDS && isKind(at) && bodyOf(act, at) == NONE; k++) {
                at = ABOVE[at];
            }
            return at;
        }

        private static int run(Acts a, int act, int kind, int x, int deep) {
            int holder = holderOf(act, kind);
            if (deep > MOST_DEEP || !isKind(holder)) {
                return 0;
            }
            int own = a.kindOf(a.number);
            int above = ABOVE[holder];
            int next = deep + 1;
            int code = bodyOf(act, holder);
            a.note(code);
            switch (code) {
                case 1: return x + a.number;
                case 2: return run(a, SHOWS, own, x, next) - run(a, RESTS, own, 1, next);
                case 10: return run(a, LIGHTS, own, x, next) * 2;
                case 11: return x ^ a.number;
                case 20: return run(a, LIGHTS, above, x, next) + 3;
                case 30: return -run(a, SHOWS, above, x, next);
                case 40: return run(a, RESTS, above, x, next) * 3;
                case 41: return run(a, SHOWS, above, x + 1, next);
                case 50: return run(a, TELLS, above, x, next) ^ 5;
                case 60: return run(a, RESTS, above, x, next) - run(a, LIGHTS, own, 2, next);
                case 61: return run(a, TELLS, above, x, next) + 1;
                case 70: return run(a, LIGHTS, above, x, next) * 2;
                case 80: return run(a, SHOWS, above, x, next) + run(a, RESTS, own, 2, next);
                case 81: return run(a, LIGHTS, above, x, next) - 1;
                default: return 0;
            }
        }
    }

    /** A place for nothing, a body, or a row: rows of every sort lie in longs that were narrowed as they came. */
    private static final class Shelf {
        private static final int NOTHING = 0, BODY = 1, ROW = 2;

        private int holds;
        int body;
        int sort;
        int length;
        private final long[] elements;

        Shelf() {
            elements = new long[MOST_ELEMENTS];
        }

        boolean isEmpty() {
            return holds == NOTHING;
        }

        boolean isBody() {
            return holds == BODY;
        }

        boolean isRow() {
            return holds == ROW;
        }

        boolean isRowOf(int wanted) {
            return holds == ROW && sort == wanted;
        }

        void holdNothing() {
            holds = NOTHING;
        }

        void holdBody(int newBody) {
            holds = BODY;
            body = newBody;
        }

        void holdRow(int newSort, int newLength) {
            holds = ROW;
            sort = newSort;
            length = newLength;
            Arrays.fill(elements, 0L);
        }

        boolean hasPlace(int i) {
            return holds == ROW && i >= 0 && i < length && i < MOST_ELEMENTS;
        }

        boolean hasPlaces(int i, int n) {
            return i >= 0 && n >= 0 && i <= length && n <= length - i && length <= MOST_ELEMENTS;
        }

        long elementAt(int i) {
            return hasPlace(i) ? elements[i] : 0;
        }

        void write(int i, long v) {
            if (hasPlace(i)) {
                elements[i] = narrowed(v);
            }
        }

        private long narrowed(long v) {
            switch (sort) {
                case 0: return (byte) v;
                case SHORTS: return (short) v;
                case 2: return (int) v;
                case 4: return v != 0 ? 1 : 0;
                default: return v;
            }
        }

        void take(Shelf from, int i, int j, int n) {
            if (from.hasPlaces(i, n) && hasPlaces(j, n)) {
                System.arraycopy(from.elements, i, elements, j, n);
            }
        }
    }
}
