/** The document's Terms 4 and what it says of answers: a test of its own for each sentence that names a limit. */
public final class EdgesOfShelvesTest {
    private static final int BAD = Due.BAD, NOT = Due.NOT, FULL = Due.FULL, STATE = Due.STATE;
    private static final long NONE = Long.MIN_VALUE;
    private static final Due due = new Due("EdgesOfShelvesTest");

    public static void main(String[] args) {
        fiftyBodies();
        eightKinds();
        fourActs();
        intsThatWrap();
        numberOfABody();
        ownKindOrTheNextAbove();
        superFromAbove();
        traceOfTheLatestAct();
        traceAsTheyBegan();
        tracesOf24();
        sixShelves();
        nothingAtFirst();
        bodyOrRowOrNothing();
        rowsOfUpTo60();
        rowsBegin0();
        fiveSorts();
        lowestBits();
        booleans();
        nothingThere();
        ofAnotherKind();
        placesThatAreNotThere();
        sizeBelow0();
        shiftedAsTheyWere();
        shiftedAtTheEnds();
        barredFromARow();
        barredUpToTheEnd();
        barsCountsAll();
        barsWithIBelow0();
        theOneNamedFirst();
        lampsTakesOffAndLeaves();
        beginMayBeBarred();
        counts();
        due.end();
    }

    private static OneLamp of(int... kinds) {
        OneLamp x = new OneLamp();
        for (int kind : kinds) {
            x.body(kind);
        }
        return x;
    }

    private static void fiftyBodies() {
        due.sentence("BODIES 0 .. 49 are kept by call");
        OneLamp x = new OneLamp();
        for (int k = 0; k <= 49; k++) {
            due.is("body(0)", x.body(0), k);
        }
        due.is("the 51st", x.body(0), FULL);
        due.is("count(3)", x.count(3), 50);
        due.is("act of body 49", x.act(49, 0, 1), 50);
        due.is("act of body 50", x.act(50, 0, 1), 0);
        due.is("act of body -1", x.act(-1, 0, 1), 0);
        due.is("keep(0, 49)", x.keep(0, 49), 1);
        due.is("keep(0, 50)", x.keep(0, 50), BAD);
    }

    private static void eightKinds() {
        due.sentence("A BODY of a KIND (0 .. 7) is kept: its number. BAD, FULL.");
        OneLamp x = new OneLamp();
        due.is("body(-1)", x.body(-1), BAD);
        due.is("body(8)", x.body(8), BAD);
        due.is("count(3)", x.count(3), 0);
        for (int kind = 0; kind <= 7; kind++) {
            due.is("body(" + kind + ")", x.body(kind), kind);
            x.keep(1, kind);
            due.is("taken(1, " + kind + ")", x.taken(1, kind), kind);
        }
        due.is("taken(1, -1)", x.taken(1, -1), BAD);
        due.is("taken(1, 8)", x.taken(1, 8), BAD);
    }

    private static void fourActs() {
        due.sentence("An ACT (0 .. 3) of a BODY with x. 0, and no TRACE then: no such BODY, ACT.");
        OneLamp x = of(1, 0);
        int[] want = {6, 12, 4, 12};
        for (int act = 0; act <= 3; act++) {
            due.is("act(1, " + act + ", 5)", x.act(1, act, 5), want[act]);
        }
        int[][] none = {{1, -1}, {1, 4}, {2, 0}, {-1, 0}, {50, 3}, {1, Due.LOW}, {Due.HIGH, 0}};
        for (int[] call : none) {
            x.act(1, 3, 5);
            due.is("count(4)", x.count(4), 4);
            due.is("act(" + call[0] + ", " + call[1] + ", 5)", x.act(call[0], call[1], 5), 0);
            due.is("behind it: count(4)", x.count(4), 0);
            due.is("behind it: trace(0)", x.trace(0), BAD);
        }
    }

    private static void intsThatWrap() {
        due.sentence("ACTS with x (an int that wraps)");
        OneLamp x = of(0, 0, 3, 6, 1, 5);
        due.is("lights: HIGH + 1", x.act(1, 0, Due.HIGH), Due.LOW);
        due.is("shows: (HIGH + 1) * 2", x.act(1, 1, Due.HIGH), 0);
        due.is("rests: LOW ^ 1", x.act(1, 2, Due.LOW), Due.LOW + 1);
        due.is("tells: (LOW + 1) * 2 - (1 ^ 1)", x.act(1, 3, Due.LOW), 2);
        due.is("shows of HIGH + 1: -(LOW + 2) * 2", x.act(2, 1, Due.HIGH), -4);
        due.is("rests: (LOW ^ 2) * 3", x.act(2, 2, Due.LOW), Due.LOW + 6);
        due.is("lights: (HIGH + 3) * 2", x.act(3, 0, Due.HIGH), 4);
        due.is("lights: HIGH + 4 + 3", x.act(4, 0, Due.HIGH), Due.LOW + 6);
        due.is("rests: (LOW ^ 5) - 10", x.act(5, 2, Due.LOW), Due.HIGH - 4);
    }

    private static void numberOfABody() {
        due.sentence("n its number");
        OneLamp x = new OneLamp();
        for (int k = 0; k <= 49; k++) {
            x.body(0);
        }
        for (int k = 0; k <= 49; k++) {
            due.is("lights(100) of " + k, x.act(k, 0, 100), 100 + k);
            due.is("rests(64) of " + k, x.act(k, 2, 64), 64 + k);
        }
    }

    private static void ownKindOrTheNextAbove() {
        due.sentence("the body of its own KIND, or of the next KIND above that has one");
        OneLamp x = of(0, 1, 2, 3, 4, 5, 6, 7);
        int[][] first = {
            {1, 10, 11, 2}, {20, 10, 11, 2}, {1, 30, 11, 2}, {1, 41, 40, 2},
            {20, 10, 11, 50}, {20, 10, 60, 61}, {70, 10, 11, 2}, {81, 80, 11, 2}};
        for (int kind = 0; kind <= 7; kind++) {
            for (int act = 0; act <= 3; act++) {
                x.act(kind, act, 1);
                due.is("kind " + kind + ", act " + act + ": trace(0)", x.trace(0), first[kind][act]);
            }
        }
    }

    private static void superFromAbove() {
        due.sentence("super: from the KIND above the body's on.");
        OneLamp x = of(3, 5, 7);
        due.is("SHY shows: EVEN's with x + 1, then WAY's", x.act(0, 1, 4), -10);
        due.is("SHY rests: WAY's, past EVEN", x.act(0, 2, 4), 12);
        due.is("BEST rests: WAY's, past RULE and MIRROR", x.act(1, 2, 4), 5 - 6);
        due.is("BEST tells: RULE's, then WAY's", x.act(1, 3, 4), (16 - (0 - 6) ^ 5) + 1);
        due.is("LOST shows: WAY's, past TOLD", x.act(2, 1, 4), (6 * 2 - 1) * 2);
        due.is("LOST lights: TOLD's, then WAY's", x.act(2, 0, 4), 6 * 2 - 1);
    }

    private static void traceOfTheLatestAct() {
        due.sentence("THE TRACE's i-th body. BAD.");
        OneLamp x = of(5);
        due.is("no act yet: trace(0)", x.trace(0), BAD);
        x.act(0, 3, 1);
        due.is("trace(-1)", x.trace(-1), BAD);
        due.is("trace(0)", x.trace(0), 61);
        due.is("trace(9)", x.trace(9), 1);
        due.is("trace(10)", x.trace(10), BAD);
        x.act(0, 0, 1);
        due.is("a shorter one: trace(0)", x.trace(0), 20);
        due.is("a shorter one: trace(1)", x.trace(1), 1);
        due.is("a shorter one: trace(2)", x.trace(2), BAD);
    }

    private static void traceAsTheyBegan() {
        due.sentence("numbers of the bodies that ran in the latest act(), as they began");
        OneLamp x = of(7);
        x.act(0, 3, 1);
        int[] want = {2, 80, 10, 81, 70, 1, 11, 11};
        for (int i = 0; i < want.length; i++) {
            due.is("trace(" + i + ")", x.trace(i), want[i]);
        }
        due.is("trace(8)", x.trace(8), BAD);
    }

    /** The longest trace has ten bodies, so all stay: none is lost ahead of the 24th. */
    private static void tracesOf24() {
        due.sentence("the first 24 are kept");
        OneLamp x = of(0, 1, 2, 3, 4, 5, 6, 7);
        int longest = 0;
        for (int kind = 0; kind <= 7; kind++) {
            for (int act = 0; act <= 3; act++) {
                x.act(kind, act, 3);
                int ran = x.count(4);
                longest = Math.max(longest, ran);
                due.is("kind " + kind + ", act " + act + ": the last is kept", x.trace(ran - 1) > 0 ? 1 : 0, 1);
                due.is("kind " + kind + ", act " + act + ": no more", x.trace(ran), BAD);
                due.is("kind " + kind + ", act " + act + ": trace(24)", x.trace(24), BAD);
            }
        }
        due.is("the longest", longest, 10);
    }

    private static void sixShelves() {
        due.sentence("SHELVES 0 .. 5");
        OneLamp x = of(0);
        for (int shelf : new int[] {-1, 6, Due.LOW, Due.HIGH}) {
            due.is("bars(" + shelf + ", 0, 1)", x.bars(shelf, 0, 1), BAD);
            due.is("judge(" + shelf + ")", x.judge(shelf), BAD);
            due.is("keep(" + shelf + ", 0)", x.keep(shelf, 0), BAD);
            due.is("keep(" + shelf + ", -1)", x.keep(shelf, -1), BAD);
            due.is("row(" + shelf + ", 0, 1)", x.row(shelf, 0, 1), BAD);
            due.is("put(" + shelf + ", 0, 1)", x.put(shelf, 0, 1), BAD);
            due.is("element(" + shelf + ", 0)", x.element(shelf, 0), NONE);
            due.is("shift(" + shelf + ", 0, 0, 0, 0)", x.shift(shelf, 0, 0, 0, 0), BAD);
            due.is("shift(0, 0, " + shelf + ", 0, 0)", x.shift(0, 0, shelf, 0, 0), BAD);
            due.is("taken(" + shelf + ", 0)", x.taken(shelf, 0), BAD);
        }
        for (int shelf = 0; shelf <= 5; shelf++) {
            due.is("row(" + shelf + ", 3, 1)", x.row(shelf, 3, 1), 1);
            due.is("put(" + shelf + ", 0, 50)", x.put(shelf, 0, 50 + shelf), 1);
        }
        for (int shelf = 0; shelf <= 5; shelf++) {
            due.is("element(" + shelf + ", 0)", x.element(shelf, 0), 50 + shelf);
        }
    }

    private static void nothingAtFirst() {
        due.sentence("each hold nothing (at first)");
        OneLamp x = new OneLamp();
        for (int shelf = 0; shelf <= 5; shelf++) {
            due.is("bars(" + shelf + ", 0, 1)", x.bars(shelf, 0, 1), 0);
            due.is("judge(" + shelf + ")", x.judge(shelf), -11);
            due.is("put(" + shelf + ", 0, 1)", x.put(shelf, 0, 1), -11);
            due.is("element(" + shelf + ", 0)", x.element(shelf, 0), NONE);
            due.is("shift(" + shelf + ", 0, " + shelf + ", 0, 0)", x.shift(shelf, 0, shelf, 0, 0), -11);
            due.is("taken(" + shelf + ", 0)", x.taken(shelf, 0), -11);
        }
    }

    private static void bodyOrRowOrNothing() {
        due.sentence("A SHELF holds nothing (body -1), or a BODY: 1. BAD.");
        OneLamp x = of(4, 6);
        due.is("keep(0, 2)", x.keep(0, 2), BAD);
        due.is("keep(0, -2)", x.keep(0, -2), BAD);
        due.is("keep(0, 1)", x.keep(0, 1), 1);
        due.is("taken(0, 0)", x.taken(0, 0), 6);
        due.is("row(0, 1, 2)", x.row(0, 1, 2), 1);
        due.is("a row in a body's place: taken(0, 0)", x.taken(0, 0), -12);
        due.is("a row in a body's place: element(0, 1)", x.element(0, 1), 0);
        due.is("keep(0, 0)", x.keep(0, 0), 1);
        due.is("a body in a row's place: element(0, 1)", x.element(0, 1), NONE);
        due.is("a body in a row's place: taken(0, 1)", x.taken(0, 1), 4);
        due.is("keep(0, -1)", x.keep(0, -1), 1);
        due.is("nothing: taken(0, 0)", x.taken(0, 0), -11);
        due.is("nothing again: keep(0, -1)", x.keep(0, -1), 1);
    }

    private static void rowsOfUpTo60() {
        due.sentence("of 0 .. 60 elements");
        OneLamp x = new OneLamp();
        for (int sort = 0; sort <= 4; sort++) {
            due.is("row(1, " + sort + ", 61)", x.row(1, sort, 61), BAD);
            due.is("row(1, " + sort + ", 60)", x.row(1, sort, 60), 1);
            due.is("put(1, 59, 1)", x.put(1, 59, 1), 1);
            due.is("element(1, 59)", x.element(1, 59), 1);
            due.is("put(1, 60, 1)", x.put(1, 60, 1), -13);
            due.is("element(1, 60)", x.element(1, 60), NONE);
            due.is("row(1, " + sort + ", 0)", x.row(1, sort, 0), 1);
            due.is("put(1, 0, 1)", x.put(1, 0, 1), -13);
            due.is("element(1, 0)", x.element(1, 0), NONE);
            due.is("row(1, " + sort + ", HIGH)", x.row(1, sort, Due.HIGH), BAD);
        }
    }

    private static void rowsBegin0() {
        due.sentence("0 at first (false)");
        OneLamp x = new OneLamp();
        for (int sort = 0; sort <= 4; sort++) {
            x.row(2, sort, 3);
            for (int i = 0; i < 3; i++) {
                due.is("sort " + sort + ": element(2, " + i + ")", x.element(2, i), 0);
                x.put(2, i, 1);
            }
            x.row(2, sort, 4);
            for (int i = 0; i < 4; i++) {
                due.is("sort " + sort + ", anew: element(2, " + i + ")", x.element(2, i), 0);
            }
        }
    }

    private static void fiveSorts() {
        due.sentence("a ROW: of 0 bytes, 1 shorts, 2 ints, 3 longs, 4 booleans");
        OneLamp x = new OneLamp();
        due.is("row(0, -1, 1)", x.row(0, -1, 1), BAD);
        due.is("row(0, 5, 1)", x.row(0, 5, 1), BAD);
        long[] want = {-17, -12817, 0x89ABCDEF, 0x123456789ABCDEFL, 1};
        for (int sort = 0; sort <= 4; sort++) {
            due.is("row(0, " + sort + ", 1)", x.row(0, sort, 1), 1);
            x.put(0, 0, 0x123456789ABCDEFL);
            due.is("sort " + sort + ": element(0, 0)", x.element(0, 0), want[sort]);
            due.is("sort " + sort + ": judge(0)", x.judge(0), sort == 1 ? 0 : -12);
            due.is("sort " + sort + ": bars(0, 0, 1)", x.bars(0, 0, 1), sort == 1 ? 0 : -12);
        }
    }

    private static void kept(int sort, long v, long want) {
        OneLamp x = new OneLamp();
        x.row(0, sort, 3);
        due.is("sort " + sort + ": put(0, 1, " + v + ")", x.put(0, 1, v), 1);
        due.is("sort " + sort + ": element of " + v, x.element(0, 1), want);
        due.is("sort " + sort + ": the one ahead of " + v, x.element(0, 0), 0);
        due.is("sort " + sort + ": the one behind " + v, x.element(0, 2), 0);
    }

    private static void lowestBits() {
        due.sentence("what is put in keeps its lowest bits");
        for (int sort = 0; sort <= 3; sort++) {
            int bits = 8 << sort;
            long highest = sort == 3 ? Long.MAX_VALUE : (1L << bits - 1) - 1;
            kept(sort, highest, highest);
            kept(sort, highest + 1, -highest - 1);
            kept(sort, -highest - 1, -highest - 1);
            kept(sort, -highest - 2, highest);
            kept(sort, -1, -1);
            kept(sort, 2 * highest + 1, -1);
            kept(sort, 2 * highest + 2, 0);
            kept(sort, Long.MAX_VALUE, sort == 3 ? Long.MAX_VALUE : -1);
            kept(sort, Long.MIN_VALUE, sort == 3 ? Long.MIN_VALUE : 0);
        }
    }

    private static void booleans() {
        due.sentence("(a boolean: whether it is not 0; 1 or 0)");
        kept(4, 0, 0);
        for (long v : new long[] {1, 2, -1, -2, 256, 65536, 1L << 32, 1L << 63, Long.MAX_VALUE}) {
            kept(4, v, 1);
        }
        OneLamp x = new OneLamp();
        x.row(0, 4, 1);
        x.put(0, 0, 5);
        x.put(0, 0, 0);
        due.is("element(0, 0)", x.element(0, 0), 0);
    }

    private static void nothingThere() {
        due.sentence("-11 nothing is there where something is wanted");
        OneLamp x = of(0);
        x.row(1, 1, 1);
        x.keep(2, 0);
        due.is("put", x.put(0, 0, 1), -11);
        due.is("put at no place", x.put(0, -1, 1), -11);
        due.is("judge", x.judge(0), -11);
        due.is("taken", x.taken(0, 0), -11);
        due.is("shift from nothing", x.shift(0, 0, 1, 0, 1), -11);
        due.is("shift to nothing", x.shift(1, 0, 0, 0, 1), -11);
        due.is("shift from nothing to a body", x.shift(0, 0, 2, 0, 1), -11);
        due.is("shift from a body to nothing", x.shift(2, 0, 0, 0, 1), -11);
        due.is("shift of -1 to nothing", x.shift(1, 0, 0, 0, -1), -11);
    }

    private static void ofAnotherKind() {
        due.sentence("-12 it is of another kind");
        OneLamp x = of(6);
        x.keep(0, 0);
        x.row(1, 0, 2);
        x.row(2, 1, 2);
        due.is("bars of a body", x.bars(0, 0, 1), -12);
        due.is("bars of bytes", x.bars(1, 0, 1), -12);
        due.is("judge by a body", x.judge(0), -12);
        due.is("judge by bytes", x.judge(1), -12);
        due.is("put into a body", x.put(0, 0, 1), -12);
        due.is("put into a body, no place", x.put(0, 60, 1), -12);
        due.is("shift from a body", x.shift(0, 0, 1, 0, 1), -12);
        due.is("shift to a body", x.shift(1, 0, 0, 0, 1), -12);
        due.is("shift of unlike sorts", x.shift(1, 0, 2, 0, 1), -12);
        due.is("shift of unlike sorts, no place", x.shift(1, -1, 2, 9, -1), -12);
        due.is("taken of a row", x.taken(1, 0), -12);
        due.is("taken for a KIND beside", x.taken(0, 1), -12);
        due.is("taken for a KIND under it", x.taken(0, 7), -12);
        due.is("taken for its own KIND", x.taken(0, 6), 6);
        due.is("taken for the KIND above", x.taken(0, 0), 6);
    }

    private static void placesThatAreNotThere() {
        due.sentence("-13 a place that is not there");
        OneLamp x = new OneLamp();
        Due.row(x, 0, 2, 4, 5, 6);
        for (int i : new int[] {-1, 3, 59, 60, Due.LOW, Due.HIGH}) {
            due.is("put(0, " + i + ", 1)", x.put(0, i, 1), -13);
            due.is("element(0, " + i + ")", x.element(0, i), NONE);
            due.is("shift(0, " + i + ", 0, 0, 1)", x.shift(0, i, 0, 0, 1), -13);
            due.is("shift(0, 0, 0, " + i + ", 1)", x.shift(0, 0, 0, i, 1), -13);
        }
        for (int n : new int[] {-1, 4, 60, Due.LOW, Due.HIGH}) {
            due.is("shift(0, 0, 0, 0, " + n + ")", x.shift(0, 0, 0, 0, n), -13);
            due.is("shift(0, 1, 0, 1, " + n + ")", x.shift(0, 1, 0, 1, n), -13);
        }
        due.is("element(0, 0)", x.element(0, 0), 4);
        due.is("element(0, 2)", x.element(0, 2), 6);
    }

    private static void sizeBelow0() {
        due.sentence("-14 a size below 0");
        OneLamp x = new OneLamp();
        for (int n : new int[] {-1, -60, Due.LOW}) {
            due.is("row(0, 0, " + n + ")", x.row(0, 0, n), -14);
            due.is("row(5, 4, " + n + ")", x.row(5, 4, n), -14);
            due.is("row(0, 5, " + n + ")", x.row(0, 5, n), BAD);
            due.is("row(6, 0, " + n + ")", x.row(6, 0, n), BAD);
        }
        due.is("still nothing: put(0, 0, 1)", x.put(0, 0, 1), -11);
    }

    private static void isRow(OneLamp x, int shelf, long... want) {
        for (int i = 0; i < want.length; i++) {
            due.is("element(" + shelf + ", " + i + ")", x.element(shelf, i), want[i]);
        }
    }

    private static void shiftedAsTheyWere() {
        due.sentence("(or the same) from j on, as they all were before: n.");
        OneLamp x = new OneLamp();
        for (int sort = 0; sort <= 3; sort++) {
            Due.row(x, 0, sort, 1, 2, 3, 4, 5);
            due.is("up by one", x.shift(0, 0, 0, 1, 4), 4);
            isRow(x, 0, 1, 1, 2, 3, 4);
            Due.row(x, 0, sort, 1, 2, 3, 4, 5);
            due.is("down by one", x.shift(0, 1, 0, 0, 4), 4);
            isRow(x, 0, 2, 3, 4, 5, 5);
            due.is("to where they are", x.shift(0, 0, 0, 0, 5), 5);
            isRow(x, 0, 2, 3, 4, 5, 5);
        }
        Due.row(x, 0, 4, 1, 0, 0, 1, 0);
        due.is("booleans, up by two", x.shift(0, 0, 0, 2, 3), 3);
        isRow(x, 0, 1, 0, 1, 0, 0);
        Due.row(x, 1, 4, 0, 0);
        due.is("booleans, to another", x.shift(0, 1, 1, 0, 2), 2);
        isRow(x, 1, 0, 1);
        isRow(x, 0, 1, 0, 1, 0, 0);
    }

    private static void shiftedAtTheEnds() {
        due.sentence("-13 (n below 0, too).");
        OneLamp x = new OneLamp();
        Due.row(x, 0, 1, 1, 2, 3);
        Due.row(x, 1, 1, 7, 8);
        due.is("none, at both ends", x.shift(0, 3, 1, 2, 0), 0);
        due.is("none, behind the one's end", x.shift(0, 4, 1, 2, 0), -13);
        due.is("none, behind the other's end", x.shift(0, 3, 1, 3, 0), -13);
        due.is("none, ahead of the one", x.shift(0, -1, 1, 0, 0), -13);
        due.is("none, ahead of the other", x.shift(0, 0, 1, -1, 0), -13);
        due.is("the last to the last", x.shift(0, 2, 1, 1, 1), 1);
        isRow(x, 1, 7, 3);
        due.is("one more than the other has", x.shift(0, 0, 1, 0, 3), -13);
        due.is("one more than the one has", x.shift(1, 0, 0, 0, 3), -13);
        due.is("-1", x.shift(0, 1, 1, 1, -1), -13);
        isRow(x, 1, 7, 3);
        isRow(x, 0, 1, 2, 3);
        x.row(2, 1, 0);
        due.is("none of none", x.shift(2, 0, 2, 0, 0), 0);
        due.is("one of none", x.shift(2, 0, 1, 0, 1), -13);
    }

    private static void barredFromARow() {
        due.sentence("BARRED FROM A ROW of shorts, from place i on: n PICTURES are told BARRED");
        OneLamp x = new OneLamp();
        due.is("n 0", x.bars(0, 0, 0), BAD);
        due.is("n 31", x.bars(0, 0, 31), BAD);
        due.is("n -1", x.bars(0, 0, -1), BAD);
        x.lamps(6);
        x.row(0, 1, 60);
        for (int k = 0; k < 60; k++) {
            x.put(0, k, k);
        }
        due.is("n 1", x.bars(0, 59, 1), 1);
        due.is("picture(59, 1)", x.picture(59, 1), 1);
        due.is("count(0)", x.count(0), 1);
        due.is("n 30", x.bars(0, 2, 30), 30);
        due.is("count(0)", x.count(0), 31);
        due.is("picture(1, 1)", x.picture(1, 1), 0);
        due.is("picture(2, 1)", x.picture(2, 1), 1);
        due.is("picture(31, 1)", x.picture(31, 1), 1);
        due.is("picture(32, 1)", x.picture(32, 1), 0);
    }

    private static void barredUpToTheEnd() {
        due.sentence("it ends where the row is missing, ends, or one is none of the WALL's: those ahead are.");
        OneLamp x = new OneLamp();
        due.is("missing", x.bars(0, 0, 30), 0);
        Due.row(x, 0, 1, 1, 2, 8, 3);
        due.is("none of the wall's", x.bars(0, 0, 4), 2);
        due.is("those ahead: picture(2, 1)", x.picture(2, 1), 1);
        due.is("not those behind: picture(3, 1)", x.picture(3, 1), 0);
        due.is("it begins there", x.bars(0, 2, 2), 0);
        due.is("it begins behind it, and ends", x.bars(0, 3, 2), 1);
        due.is("picture(3, 1)", x.picture(3, 1), 1);
        due.is("it begins at the end", x.bars(0, 4, 1), 0);
        due.is("it begins behind the end", x.bars(0, 60, 1), 0);
        due.is("i HIGH", x.bars(0, Due.HIGH, 30), 0);
        Due.row(x, 0, 1, 7, -1, 5);
        due.is("below 0", x.bars(0, 0, 3), 1);
        due.is("count(0)", x.count(0), 4);
        x.lamps(4);
        Due.row(x, 0, 1, 8, 15, 16);
        due.is("of four lamps", x.bars(0, 0, 3), 2);
        x.row(0, 1, 0);
        due.is("a row without elements", x.bars(0, 0, 1), 0);
    }

    private static void barsCountsAll() {
        due.sentence("bars() counts all that were gone through.");
        OneLamp x = new OneLamp();
        x.bar(4);
        Due.law(x, "p=6");
        Due.row(x, 0, 1, 4, 4, 6, 0, 4);
        due.is("bars(0, 0, 5)", x.bars(0, 0, 5), 5);
        due.is("count(0)", x.count(0), 3);
        due.is("once more: bars(0, 0, 5)", x.bars(0, 0, 5), 5);
        due.is("count(0)", x.count(0), 3);
    }

    private static void barsWithIBelow0() {
        due.sentence("how many (0 with i below 0). BAD, -12 (no ROW of shorts; a SHELF that holds nothing is missing).");
        OneLamp x = of(0);
        Due.row(x, 0, 1, 1, 2, 3);
        for (int i : new int[] {-1, -30, Due.LOW}) {
            due.is("bars(0, " + i + ", 30)", x.bars(0, i, 30), 0);
            due.is("of nothing: bars(1, " + i + ", 1)", x.bars(1, i, 1), 0);
            due.is("n 31: bars(0, " + i + ", 31)", x.bars(0, i, 31), BAD);
            due.is("shelf 6: bars(6, " + i + ", 1)", x.bars(6, i, 1), BAD);
        }
        due.is("count(0)", x.count(0), 0);
        x.keep(2, 0);
        x.row(3, 2, 4);
        due.is("a body", x.bars(2, 0, 1), -12);
        due.is("ints", x.bars(3, 0, 1), -12);
        due.is("ints, n 31", x.bars(3, 0, 31), BAD);
    }

    private static void theOneNamedFirst() {
        due.sentence("Answers, of several the one named first");
        OneLamp x = of(0);
        x.keep(0, 0);
        x.row(1, 1, 2);
        x.row(2, 2, 2);
        due.is("bars: BAD, then -12", x.bars(0, 0, 0), BAD);
        due.is("put: BAD, then -13", x.put(6, -1, 1), BAD);
        due.is("put: -11, then -13", x.put(3, 60, 1), -11);
        due.is("put: -12, then -13", x.put(0, 60, 1), -12);
        due.is("shift: BAD, then -11", x.shift(3, 0, 6, 0, 1), BAD);
        due.is("shift: BAD, then -12", x.shift(0, 0, 6, 0, 1), BAD);
        due.is("shift: BAD, then -13", x.shift(-1, 0, 1, 0, -1), BAD);
        due.is("shift: -11, then -12", x.shift(0, 0, 3, 0, 1), -11);
        due.is("shift: -11, then -13", x.shift(3, 0, 1, 0, -1), -11);
        due.is("shift: -12, then -13", x.shift(1, 5, 2, 5, -1), -12);
        due.is("taken: BAD, then -11", x.taken(3, 8), BAD);
        due.is("taken: BAD, then -12", x.taken(1, -1), BAD);
        due.is("row: BAD, then -14", x.row(0, 5, -1), BAD);
        x.lamps(5);
        due.is("longest: BAD, then STATE", x.longest(-2), BAD);
        due.is("longest: STATE, then BAD (none such)", x.longest(99), STATE);
        due.is("wished: BAD, then STATE", x.wished(16), BAD);
        due.is("game: BAD, then STATE", x.game(2), BAD);
        due.is("through: BAD, then STATE", x.through(0, 1, 31), BAD);
        due.is("through: BAD, then NOT", x.through(0, 0, 31), BAD);
        due.is("through: STATE, then NOT", x.through(0, 3, 0), STATE);
        due.is("lamp: BAD, then NOT", x.lamp(5, 2), BAD);
        due.is("mirror: BAD, then NOT", x.mirror(0, 3), BAD);
        for (int k = 0; k < 120; k++) {
            x.feed('1');
        }
        due.is("feed: BAD, then FULL", x.feed(-1), BAD);
        due.is("feed: FULL", x.feed('1'), FULL);
        for (int k = 1; k < 50; k++) {
            x.body(0);
        }
        due.is("body: BAD, then FULL", x.body(8), BAD);
        due.is("body: FULL", x.body(7), FULL);
    }

    private static void lampsTakesOffAndLeaves() {
        due.sentence("lamps() takes off what was told BARRED, and leaves REST, SHY, COST, THE LAW");
        for (int n : new int[] {1, 3, 4, 10}) {
            OneLamp x = new OneLamp();
            x.bar(1);
            x.bar(7);
            x.set(0, 9);
            x.set(1, 1);
            x.cost(0, 7);
            x.cost(9, 3);
            Due.law(x, "p=0");
            due.is("lamps(" + n + ")", x.lamps(n), 3);
            due.is("count(0)", x.count(0), 0);
            due.is("picture(1, 1)", x.picture(1, 1), 0);
            due.is("rest", x.now(6), 9);
            due.is("shy", x.now(7), 1);
            due.is("cost", x.lamp(0, 0), 7);
            due.is("cost of the tenth", x.cost(9, 3), 3);
            due.is("law", x.picture(0, 1), 1);
        }
    }

    private static void beginMayBeBarred() {
        due.sentence("begin() may be at a BARRED PICTURE.");
        OneLamp x = new OneLamp();
        x.bar(5);
        Due.law(x, "p=6");
        due.is("told: begin(5)", x.begin(5), 5);
        due.is("now(1)", x.now(1), 5);
        due.is("still barred: picture(5, 1)", x.picture(5, 1), 1);
        due.is("by law: begin(6)", x.begin(6), 6);
        due.is("may()", x.may(), 7);
        due.is("change(0)", x.change(0), 7);
        due.is("change(1), to a barred one", x.change(1), NOT);
        due.is("begin(7), where it is", x.begin(7), 7);
        due.is("all anew: now(2)", x.now(2), 0);
        due.is("all anew: lamp(0, 1)", x.lamp(0, 1), 0);
        due.is("all anew: now(3)", x.now(3), 1);
        due.is("all anew: now(4)", x.now(4), 0);
    }

    private static void counts() {
        due.sentence("4 bodies that ran in the latest act() (all, kept or not). BAD.");
        OneLamp x = of(7, 5);
        for (int what = 0; what <= 4; what++) {
            due.is("count(" + what + ")", x.count(what), what == 3 ? 2 : 0);
        }
        x.act(0, 3, 1);
        due.is("count(4)", x.count(4), 8);
        x.act(1, 3, 1);
        due.is("count(4)", x.count(4), 10);
        x.act(1, 4, 1);
        due.is("count(4)", x.count(4), 0);
        for (int what : new int[] {-1, 5, Due.LOW, Due.HIGH}) {
            due.is("count(" + what + ")", x.count(what), BAD);
        }
    }
}
