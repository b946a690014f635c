import java.util.Arrays;
import java.util.List;
import java.util.Map;
import java.util.function.Consumer;
import java.util.function.ToLongFunction;

/**
 * "What is answered so changes nothing", and what a call does not name stays: two objects go the same way, one of them
 * a call more; then all that can be learnt of the one is held against the other.
 */
public final class StaysTest {
    private static final int BAD = Due.BAD, NOT = Due.NOT, FULL = Due.FULL, STATE = Due.STATE;
    private static final Due due = new Due("StaysTest");

    private static Consumer<OneLamp> start;

    public static void main(String[] args) {
        of("a wall in use", StaysTest::inUse);
        refusedOnTheWall();
        refusedAtNight();
        refusedByLaw();
        refusedOnShelves();
        refusedElements();
        refusedShifts();
        onlyAsked();
        onlyThought();
        doneOnTheWall();
        doneElsewhere();
        atAWallThatCanGoOn();
        refusedElsewhere();
        due.end();
    }

    /** Something of every part: nights, barred ones, changes both ways, an image, a tape, a trace, every sort of shelf. */
    private static void inUse(OneLamp x) {
        x.lamps(4);
        Due.law(x, "p=15|n=10");
        x.bar(9);
        x.cost(0, 3);
        x.cost(9, 4);
        x.cost(1, 2);
        x.undo();
        x.begin(5);
        x.change(0);
        x.image();
        x.change(1);
        x.change(3);
        x.bar(10);
        x.set(0, 2);
        x.set(1, 1);
        Due.feed(x, "p=");
        x.body(5);
        x.body(3);
        x.act(0, 3, 7);
        x.keep(0, 1);
        Due.row(x, 1, 1, 1, 3, 2, 16);
        Due.row(x, 2, 2, 7, -8, 9);
        Due.row(x, 4, 1, 12, 13);
    }

    private static void of(String name, Consumer<OneLamp> newStart) {
        due.of(name);
        start = newStart;
    }

    private static OneLamp started() {
        OneLamp x = new OneLamp();
        start.accept(x);
        return x;
    }

    /** A call, its due answer, and the parts that it may change. */
    private static void changes(String name, long want, ToLongFunction<OneLamp> call, String... mayChange) {
        OneLamp x = started();
        due.is(name, call.applyAsLong(x), want);
        Map<String, List<Long>> before = new Portrait(started()).parts();
        Map<String, List<Long>> after = new Portrait(x).parts();
        for (String part : before.keySet()) {
            boolean like = before.get(part).equals(after.get(part));
            if (!Arrays.asList(mayChange).contains(part)) {
                due.is(name + " leaves " + part + ": " + before.get(part) + " is " + after.get(part), like ? 1 : 0, 1);
            }
        }
        boolean all = before.equals(after);
        due.is(name + ": something changes", all ? 0 : 1, mayChange.length == 0 ? 0 : 1);
    }

    private static void stays(String name, long want, ToLongFunction<OneLamp> call) {
        changes(name, want, call);
    }

    private static void refusedOnTheWall() {
        stays("lamps(0)", BAD, x -> x.lamps(0));
        stays("lamps(11)", BAD, x -> x.lamps(11));
        stays("begin(-1)", BAD, x -> x.begin(-1));
        stays("begin(16)", BAD, x -> x.begin(16));
        stays("bar(-1)", BAD, x -> x.bar(-1));
        stays("bar(16)", BAD, x -> x.bar(16));
        stays("bar of a told one", 0, x -> x.bar(9));
        stays("bars from shelf -1", BAD, x -> x.bars(-1, 0, 1));
        stays("bars from shelf 6", BAD, x -> x.bars(6, 0, 1));
        stays("bars of none", BAD, x -> x.bars(1, 0, 0));
        stays("bars of 31", BAD, x -> x.bars(1, 0, 31));
        stays("bars of ints", -12, x -> x.bars(2, 0, 1));
        stays("bars of a body", -12, x -> x.bars(0, 0, 1));
        stays("bars of a missing row", 0, x -> x.bars(3, 0, 1));
        stays("bars with i below 0", 0, x -> x.bars(1, -1, 3));
        stays("bars from the end on", 0, x -> x.bars(1, 4, 3));
        stays("bars of none of the wall's", 0, x -> x.bars(1, 3, 3));
        stays("feed(-1)", BAD, x -> x.feed(-1));
        stays("feed(256)", BAD, x -> x.feed(256));
        stays("set(0, -1)", BAD, x -> x.set(0, -1));
        stays("set(0, 10)", BAD, x -> x.set(0, 10));
        stays("set(1, -1)", BAD, x -> x.set(1, -1));
        stays("set(1, 2)", BAD, x -> x.set(1, 2));
        stays("set(2, 1)", BAD, x -> x.set(2, 1));
        stays("set(-1, 1)", BAD, x -> x.set(-1, 1));
        stays("cost(-1, 0)", BAD, x -> x.cost(-1, 0));
        stays("cost(10, 0)", BAD, x -> x.cost(10, 0));
        stays("cost(0, -1)", BAD, x -> x.cost(0, -1));
        stays("cost(0, 10)", BAD, x -> x.cost(0, 10));
        stays("cost(0, 3), the same number", 3, x -> x.cost(0, 3));
        stays("set(0, 2), the same number", 2, x -> x.set(0, 2));
    }

    private static void refusedAtNight() {
        stays("change(-1)", BAD, x -> x.change(-1));
        stays("change(4)", BAD, x -> x.change(4));
        stays("change(0), barred by the law", NOT, x -> x.change(0));
        stays("change(2), told barred", NOT, x -> x.change(2));
        stays("change(1), that rests", NOT, x -> x.change(1));
        stays("change(3), that rests", NOT, x -> x.change(3));
        stays("longest(-2)", BAD, x -> x.longest(-2));
        stays("longest(99)", BAD, x -> x.longest(99));
        stays("wished(-1)", BAD, x -> x.wished(-1));
        stays("wished(16)", BAD, x -> x.wished(16));
        stays("game(-1)", BAD, x -> x.game(-1));
        stays("game(2)", BAD, x -> x.game(2));
        stays("ways(16, 0)", BAD, x -> x.ways(16, 0));
        stays("ways(0, 6)", BAD, x -> x.ways(0, 6));
        stays("ways(0, -1)", BAD, x -> x.ways(0, -1));
        stays("judge(6)", BAD, x -> x.judge(6));
        stays("judge by nothing", -11, x -> x.judge(3));
        stays("judge by ints", -12, x -> x.judge(2));
        stays("judge by a body", -12, x -> x.judge(0));
    }

    private static void refusedByLaw() {
        stays("mirror(-1, 0)", BAD, x -> x.mirror(-1, 0));
        stays("mirror(2^62, 1)", BAD, x -> x.mirror(1L << 62, 1));
        stays("mirror(0, 2)", NOT, x -> x.mirror(0, 2));
        stays("mirror(0, 3)", BAD, x -> x.mirror(0, 3));
        stays("several(100, 0)", BAD, x -> x.several(100, 0));
        stays("several(200, -1)", BAD, x -> x.several(200, -1));
        stays("through(16, 0, -1)", BAD, x -> x.through(16, 0, -1));
        stays("through(0, 1, 15)", BAD, x -> x.through(0, 1, 15));
        stays("through(0, 3, 0)", NOT, x -> x.through(0, 3, 0));
    }

    private static void refusedOnShelves() {
        stays("body(-1)", BAD, x -> x.body(-1));
        stays("body(8)", BAD, x -> x.body(8));
        stays("trace(-1)", BAD, x -> x.trace(-1));
        stays("trace(10)", BAD, x -> x.trace(10));
        stays("keep(6, 0)", BAD, x -> x.keep(6, 0));
        stays("keep(1, 2)", BAD, x -> x.keep(1, 2));
        stays("keep(1, -2)", BAD, x -> x.keep(1, -2));
        stays("row(6, 0, 1)", BAD, x -> x.row(6, 0, 1));
        stays("row(1, 5, 1)", BAD, x -> x.row(1, 5, 1));
        stays("row(1, -1, 1)", BAD, x -> x.row(1, -1, 1));
        stays("row(1, 1, 61)", BAD, x -> x.row(1, 1, 61));
        stays("row(1, 1, -1)", -14, x -> x.row(1, 1, -1));
        stays("taken(6, 0)", BAD, x -> x.taken(6, 0));
        stays("taken(0, 8)", BAD, x -> x.taken(0, 8));
        stays("taken(3, 0)", -11, x -> x.taken(3, 0));
        stays("taken(1, 0)", -12, x -> x.taken(1, 0));
        stays("taken(0, 1), of another kind", -12, x -> x.taken(0, 1));
        stays("count(5)", BAD, x -> x.count(5));
        changes("act of no body", 0, x -> x.act(2, 0, 1), Portrait.TRACE);
        changes("no act", 0, x -> x.act(0, 4, 1), Portrait.TRACE);
    }

    private static void refusedElements() {
        stays("put(6, 0, 1)", BAD, x -> x.put(6, 0, 1));
        stays("put(3, 0, 1)", -11, x -> x.put(3, 0, 1));
        stays("put(0, 0, 1)", -12, x -> x.put(0, 0, 1));
        stays("put(1, 4, 1)", -13, x -> x.put(1, 4, 1));
        stays("put(1, -1, 1)", -13, x -> x.put(1, -1, 1));
        long none = Long.MIN_VALUE;
        stays("element(6, 0)", none, x -> x.element(6, 0));
        stays("element(3, 0)", none, x -> x.element(3, 0));
        stays("element(0, 0)", none, x -> x.element(0, 0));
        stays("element(1, 4)", none, x -> x.element(1, 4));
    }

    private static void refusedShifts() {
        stays("shift to shelf 6", BAD, x -> x.shift(1, 0, 6, 0, 1));
        stays("shift from shelf -1", BAD, x -> x.shift(-1, 0, 1, 0, 1));
        stays("shift to nothing", -11, x -> x.shift(1, 0, 3, 0, 1));
        stays("shift to a body", -12, x -> x.shift(1, 0, 0, 0, 1));
        stays("shift of shorts to ints", -12, x -> x.shift(1, 0, 2, 0, 1));
        stays("shift of too many, that could begin", -13, x -> x.shift(1, 0, 4, 0, 3));
        stays("shift from behind the end", -13, x -> x.shift(4, 1, 1, 0, 2));
        stays("shift of -1", -13, x -> x.shift(1, 0, 4, 0, -1));
        stays("shift of none", 0, x -> x.shift(1, 0, 4, 0, 0));
    }

    private static void onlyAsked() {
        for (int what = -1; what < 9; what++) {
            int w = what;
            stays("now(" + w + ")", w == 5 ? 17 : started().now(w), x -> x.now(w));
            stays("count(" + w + ")", started().count(w), x -> x.count(w));
        }
        stays("picture(9, 1)", 1, x -> x.picture(9, 1));
        stays("picture(4, 0)", 1, x -> x.picture(4, 0));
        stays("picture(16, 0)", BAD, x -> x.picture(16, 0));
        stays("lamp(0, 1)", 1, x -> x.lamp(0, 1));
        stays("lamp(2, 2)", NOT, x -> x.lamp(2, 2));
        stays("lamp(4, 2)", BAD, x -> x.lamp(4, 2));
        stays("trace(0)", 61, x -> x.trace(0));
        stays("element(2, 1)", -8, x -> x.element(2, 1));
        stays("taken(0, 2)", 3, x -> x.taken(0, 2));
        stays("mirror(5, 0)", 7, x -> x.mirror(5, 0));
        stays("several(300, 4)", 1, x -> x.several(300, 4));
    }

    private static void onlyThought() {
        stays("may()", 0, x -> x.may());
        stays("longest(-1)", 0, x -> x.longest(-1));
        stays("game(1)", NOT, x -> x.game(1));
        stays("wished(0)", 1 << 14, x -> x.wished(0));
        stays("ways(14, 0)", 1, x -> x.ways(14, 0));
        stays("judge(1)", 3, x -> x.judge(1));
        stays("judge(4)", NOT, x -> x.judge(4));
        stays("through(0, 1, 3)", started().through(0, 1, 3), x -> x.through(0, 1, 3));
    }

    private static void atAWallThatCanGoOn() {
        of("a wall that can go on", x -> {
            x.lamps(4);
            x.change(2);
            x.bar(3);
            x.image();
            x.change(0);
        });
        stays("longest(-1)", started().longest(-1), x -> x.longest(-1));
        stays("longest(5)", started().longest(5), x -> x.longest(5));
        stays("wished(6)", started().wished(6), x -> x.wished(6));
        stays("game(0)", started().game(0), x -> x.game(0));
        stays("ways(15, 4)", started().ways(15, 4), x -> x.ways(15, 4));
        stays("may()", 14, x -> x.may());
        stays("change(0), that was had", NOT, x -> x.change(0));
        changes("change(2)", 1, x -> x.change(2), Portrait.WALL);
        of("a shy wall", x -> {
            x.set(1, 1);
            Due.change(x, "20");
        });
        stays("change(2), that is beside one had", NOT, x -> x.change(2));
    }

    private static void doneOnTheWall() {
        changes("lamps(4)", 4, x -> x.lamps(4), Portrait.WALL, Portrait.BARRED);
        changes("begin(0)", 0, x -> x.begin(0), Portrait.WALL);
        changes("begin(14), where it is", 14, x -> x.begin(14), Portrait.WALL);
        changes("begin(9), told barred", 9, x -> x.begin(9), Portrait.WALL);
        changes("begin(15), barred by the law", 15, x -> x.begin(15), Portrait.WALL);
        changes("bar(1)", 1, x -> x.bar(1), Portrait.BARRED);
        changes("bar(14), where it is", 1, x -> x.bar(14), Portrait.BARRED);
        changes("bar(15), barred by the law", 1, x -> x.bar(15), Portrait.BARRED);
        changes("bars(1, 0, 4)", 3, x -> x.bars(1, 0, 4), Portrait.BARRED);
        changes("set(0, 9)", 2, x -> x.set(0, 9), Portrait.REST);
        changes("set(1, 0)", 1, x -> x.set(1, 0), Portrait.SHY);
        changes("image()", 3, x -> x.image(), Portrait.IMAGE);
        changes("back()", 1, x -> x.back(), Portrait.WALL, Portrait.BARRED);
    }

    private static void doneElsewhere() {
        changes("feed('1')", 3, x -> x.feed('1'), Portrait.TAPE);
        changes("law() of p= has a fault", -102, x -> x.law(), Portrait.TAPE);
        changes("cost(1, 5)", 1, x -> x.cost(1, 5), Portrait.COST, Portrait.CHANGES);
        changes("undo()", 1, x -> x.undo(), Portrait.COST, Portrait.CHANGES);
        changes("redo()", 0, x -> x.redo(), Portrait.COST, Portrait.CHANGES);
        changes("body(7)", 2, x -> x.body(7), Portrait.BODIES);
        changes("act(1, 2, 0)", 3, x -> x.act(1, 2, 0), Portrait.TRACE);
        changes("keep(1, 0)", 1, x -> x.keep(1, 0), Portrait.SHELVES);
        changes("keep(1, -1)", 1, x -> x.keep(1, -1), Portrait.SHELVES);
        changes("row(1, 1, 4)", 1, x -> x.row(1, 1, 4), Portrait.SHELVES);
        changes("put(2, 0, 5)", 1, x -> x.put(2, 0, 5), Portrait.SHELVES);
        changes("shift(1, 0, 4, 0, 2)", 2, x -> x.shift(1, 0, 4, 0, 2), Portrait.SHELVES);
        of("a law on the tape", x -> {
            inUse(x);
            Due.feed(x, "3");
        });
        changes("law()", 1, x -> x.law(), Portrait.TAPE, Portrait.LAW, Portrait.BARRED);
    }

    private static void refusedElsewhere() {
        of("a full tape", x -> {
            Due.law(x, "p=1");
            Due.feed(x, "0+".repeat(58) + "p=05");
        });
        stays("feed('1')", FULL, x -> x.feed('1'));
        stays("feed(256)", BAD, x -> x.feed(256));
        of("fifty bodies", x -> {
            for (int k = 0; k < 50; k++) {
                x.body(k % 7);
            }
        });
        stays("body(7)", FULL, x -> x.body(7));
        stays("body(8)", BAD, x -> x.body(8));
        of("a new object", x -> { });
        stays("back()", STATE, x -> x.back());
        stays("undo()", STATE, x -> x.undo());
        stays("redo()", STATE, x -> x.redo());
        stays("law() of an empty tape", -100, x -> x.law());
        stays("act(0, 0, 0)", 0, x -> x.act(0, 0, 0));
        of("all undone", x -> {
            x.cost(1, 4);
            x.cost(2, 5);
            x.undo();
            x.undo();
        });
        stays("undo()", STATE, x -> x.undo());
        of("all done again", x -> {
            x.cost(1, 4);
            x.cost(2, 5);
        });
        stays("redo()", STATE, x -> x.redo());
        of("five lamps", x -> {
            x.lamps(5);
            x.change(4);
            x.bar(3);
        });
        stays("longest(0)", STATE, x -> x.longest(0));
        stays("wished(0)", STATE, x -> x.wished(0));
        stays("game(0)", STATE, x -> x.game(0));
        stays("through(0, 1, 0)", STATE, x -> x.through(0, 1, 0));
    }
}
