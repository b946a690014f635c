import java.util.ArrayList;
import java.util.List;

/** Promises 27 to 36: acts and shelves. */
public final class ActsShelvesTest {
    private static final int BAD = Due.BAD, FULL = Due.FULL;
    private static final int[] NUMBERS = {Due.LOW, -1, Due.HIGH};
    private static final Due due = new Due("ActsShelvesTest");

    public static void main(String[] args) {
        body();
        actByHand();
        actOfEveryKind();
        actThatIsNone();
        trace();
        keep();
        row();
        put();
        narrowing();
        element();
        shiftRefuses();
        shift();
        shiftInOneRow();
        taken();
        count();
        due.end();
    }

    private static void body() {
        due.of("promise 27");
        OneLamp x = new OneLamp();
        for (int kind : new int[] {-1, 8, 9, Due.LOW, Due.HIGH}) {
            due.is("body(" + kind + ")", x.body(kind), BAD);
        }
        due.is("count(3)", x.count(3), 0);
        for (int k = 0; k < 50; k++) {
            due.is("body", x.body(k % 8), k);
            due.is("count(3)", x.count(3), k + 1);
        }
        due.is("the 51st", x.body(0), FULL);
        due.is("BAD comes ahead of FULL", x.body(8), BAD);
        due.is("count(3)", x.count(3), 50);
        for (int k = 0; k < 50; k++) {
            x.keep(0, k);
            due.is("the kind of body " + k, x.taken(0, 0), k % 8);
        }
    }

    private static void acts(int kind, int act, int x, int want, int... trace) {
        OneLamp lamp = new OneLamp();
        for (int k = 0; k < 5; k++) {
            lamp.body((k + 3) % 8);
        }
        int body = lamp.body(kind);
        String call = "kind " + kind + ", number 5, act " + act + "(" + x + ")";
        due.is(call, lamp.act(body, act, x), want);
        due.is(call + ", how many ran", lamp.count(4), trace.length);
        for (int i = 0; i < trace.length; i++) {
            due.is(call + ", trace(" + i + ")", lamp.trace(i), trace[i]);
        }
        due.is(call + ", behind the trace", lamp.trace(trace.length), BAD);
    }

    /** All by hand: the number is 5. */
    private static void actByHand() {
        due.of("promise 28");
        acts(0, 0, 7, 12, 1);
        acts(0, 1, 7, 24, 10, 1);
        acts(0, 2, 7, 2, 11);
        acts(0, 3, 7, 20, 2, 10, 1, 11);
        acts(1, 0, 7, 15, 20, 1);
        acts(1, 1, 7, 30, 10, 20, 1);
        acts(1, 2, 7, 2, 11);
        acts(1, 3, 7, 26, 2, 10, 20, 1, 11);
        acts(2, 0, 7, 12, 1);
        acts(2, 1, 7, -24, 30, 10, 1);
        acts(2, 2, 7, 2, 11);
        acts(2, 3, 7, -28, 2, 30, 10, 1, 11);
        acts(3, 0, 7, 12, 1);
        acts(3, 1, 7, -26, 41, 30, 10, 1);
        acts(3, 2, 7, 6, 40, 11);
        acts(3, 3, 7, -38, 2, 41, 30, 10, 1, 40, 11);
        acts(4, 0, 7, 15, 20, 1);
        acts(4, 1, 7, 30, 10, 20, 1);
        acts(4, 2, 7, 2, 11);
        acts(4, 3, 7, 26 ^ 5, 50, 2, 10, 20, 1, 11);
        acts(5, 0, 7, 15, 20, 1);
        acts(5, 1, 7, 30, 10, 20, 1);
        acts(5, 2, 7, 2 - 10, 60, 11, 20, 1);
        acts(5, 3, 7, (30 - (4 - 10) ^ 5) + 1, 61, 50, 2, 10, 20, 1, 60, 11, 20, 1);
        acts(6, 0, 7, 24, 70, 1);
        acts(6, 1, 7, 48, 10, 70, 1);
        acts(6, 2, 7, 2, 11);
        acts(6, 3, 7, 44, 2, 10, 70, 1, 11);
        acts(7, 0, 7, 23, 81, 70, 1);
        acts(7, 1, 7, 46 + 7, 80, 10, 81, 70, 1, 11);
        acts(7, 2, 7, 2, 11);
        acts(7, 3, 7, 53 - 4, 2, 80, 10, 81, 70, 1, 11, 11);
        due.of("promise 28, wrapping");
        acts(0, 0, Due.HIGH, Due.LOW + 4, 1);
        acts(0, 1, Due.HIGH, 8, 10, 1);
        acts(0, 2, Due.LOW, Due.LOW + 5, 11);
        acts(3, 1, Due.HIGH, -10, 41, 30, 10, 1);
        acts(3, 2, Due.LOW, (Due.LOW + 5) * 3, 40, 11);
        acts(6, 0, Due.HIGH, 8, 70, 1);
        acts(2, 1, Due.LOW - 5, 0, 30, 10, 1);
        acts(2, 1, (1 << 30) - 5, Due.LOW, 30, 10, 1);
    }

    private static void actOfEveryKind() {
        due.of("promise 28, numbers and real classes");
        for (int k = 0; k < 50; k++) {
            OneLamp x = new OneLamp();
            for (int body = 0; body < 50; body++) {
                x.body(body * 3 % 8);
            }
            ModelBodies.Way way = ModelBodies.made(k * 3 % 8, k);
            for (int v : new int[] {0, 1, -1, 6, 1000, Due.LOW, Due.HIGH}) {
                way.ran = new ArrayList<>();
                due.is("lights(" + v + ") of " + k, x.act(k, 0, v), way.lights(v));
                isTraced(x, way.ran);
                due.is("shows(" + v + ") of " + k, x.act(k, 1, v), way.shows(v));
                isTraced(x, way.ran);
                due.is("rests(" + v + ") of " + k, x.act(k, 2, v), way.rests(v));
                isTraced(x, way.ran);
                due.is("tells(" + v + ") of " + k, x.act(k, 3, v), way.tells(v));
                isTraced(x, way.ran);
            }
        }
    }

    private static void isTraced(OneLamp x, List<Integer> ran) {
        due.is("count(4)", x.count(4), ran.size());
        for (int i = 0; i < ran.size(); i++) {
            due.is("trace(" + i + ")", x.trace(i), ran.get(i));
        }
        ran.clear();
    }

    private static void actThatIsNone() {
        due.of("promise 28, none");
        OneLamp x = new OneLamp();
        due.is("act(0, 0, 1)", x.act(0, 0, 1), 0);
        x.body(5);
        int[][] none = {{1, 0}, {-1, 0}, {0, -1}, {0, 4}, {50, 0}, {Due.LOW, 0}, {Due.HIGH, 3}, {0, Due.LOW}, {0, Due.HIGH}};
        for (int[] pair : none) {
            due.is("act(0, 3, 1)", x.act(0, 3, 1), (8 - (1 - 5) ^ 5) + 1);
            due.is("count(4)", x.count(4), 10);
            due.is("act(" + pair[0] + ", " + pair[1] + ", 1)", x.act(pair[0], pair[1], 1), 0);
            due.is("count(4)", x.count(4), 0);
            due.is("trace(0)", x.trace(0), BAD);
        }
    }

    private static void trace() {
        due.of("promise 29");
        OneLamp x = new OneLamp();
        x.body(5);
        x.act(0, 3, 5);
        for (int i : new int[] {-1, 10, 11, 23, 24, 25, Due.LOW, Due.HIGH}) {
            due.is("trace(" + i + ")", x.trace(i), BAD);
        }
        int[] want = {61, 50, 2, 10, 20, 1, 60, 11, 20, 1};
        for (int i = 0; i < want.length; i++) {
            due.is("trace(" + i + ")", x.trace(i), want[i]);
        }
        x.act(0, 0, 1);
        due.is("the latest act alone", x.trace(0), 20);
        due.is("the latest act alone", x.trace(2), BAD);
        x.body(8);
        x.lamps(2);
        due.is("other calls leave it", x.trace(1), 1);
    }

    private static void keep() {
        due.of("promise 30");
        OneLamp x = new OneLamp();
        due.is("no body yet", x.keep(0, 0), BAD);
        due.is("nothing", x.keep(0, -1), 1);
        x.body(2);
        x.body(7);
        int[][] refused = {{-1, 0}, {6, 0}, {0, 2}, {0, -2}, {6, -1}, {Due.LOW, 0}, {Due.HIGH, 0}, {0, Due.LOW}, {0, Due.HIGH}};
        for (int[] pair : refused) {
            due.is("keep(" + pair[0] + ", " + pair[1] + ")", x.keep(pair[0], pair[1]), BAD);
        }
        due.is("taken(0, 0)", x.taken(0, 0), -11);
        for (int shelf = 0; shelf < 6; shelf++) {
            due.is("keep(" + shelf + ", 1)", x.keep(shelf, 1), 1);
            due.is("taken", x.taken(shelf, 0), 7);
            due.is("keep(" + shelf + ", 0)", x.keep(shelf, 0), 1);
            due.is("taken", x.taken(shelf, 0), 2);
        }
        due.is("refused", x.keep(3, 2), BAD);
        due.is("it stays", x.taken(3, 0), 2);
        due.is("keep(3, -1)", x.keep(3, -1), 1);
        due.is("nothing", x.taken(3, 0), -11);
        due.is("the next one stays", x.taken(4, 0), 2);
        Due.row(x, 3, 0, 5, 6);
        due.is("keep(3, 1)", x.keep(3, 1), 1);
        due.is("no row", x.put(3, 0, 1), -12);
        x.keep(3, -1);
        due.is("nothing", x.put(3, 0, 1), -11);
    }

    private static void row() {
        due.of("promise 31");
        OneLamp x = new OneLamp();
        int[][] refused = {{-1, 0, 1}, {6, 0, 1}, {0, -1, 1}, {0, 5, 1}, {0, 0, 61}, {0, 0, Due.HIGH}, {-1, 0, -1}, {0, 5, -1},
            {0, -1, -1}, {Due.LOW, 0, 0}, {Due.HIGH, 0, 0}, {0, Due.LOW, 0}, {0, Due.HIGH, 0}, {6, 0, -1}};
        for (int[] call : refused) {
            due.is("row(" + call[0] + ", " + call[1] + ", " + call[2] + ")", x.row(call[0], call[1], call[2]), BAD);
        }
        due.is("row(0, 0, -1)", x.row(0, 0, -1), -14);
        due.is("row(0, 4, LOW)", x.row(0, 4, Due.LOW), -14);
        due.is("still nothing", x.put(0, 0, 0), -11);
        for (int sort = 0; sort < 5; sort++) {
            x = new OneLamp();
            for (int n : new int[] {60, 0, 1, 7}) {
                int shelf = (sort + n) % 6;
                due.is("row(" + shelf + ", " + sort + ", " + n + ")", x.row(shelf, sort, n), 1);
                for (int i = 0; i < n; i++) {
                    due.is("element(" + shelf + ", " + i + ")", x.element(shelf, i), 0);
                    x.put(shelf, i, -1);
                }
                due.is("its end", x.put(shelf, n, 1), -13);
            }
        }
        Due.row(x, 2, 2, 8, 9);
        due.is("refused", x.row(2, 2, -5), -14);
        due.is("refused", x.row(2, 2, 61), BAD);
        due.is("it stays", x.element(2, 1), 9);
        due.is("a new one", x.row(2, 2, 2), 1);
        due.is("is of zeros", x.element(2, 1), 0);
        x.body(0);
        x.keep(2, 0);
        due.is("in a body's place", x.row(2, 3, 1), 1);
        due.is("taken", x.taken(2, 0), -12);
    }

    private static void put() {
        due.of("promise 32");
        OneLamp x = new OneLamp();
        for (int shelf : new int[] {-1, 6, Due.LOW, Due.HIGH}) {
            due.is("put(" + shelf + ", 0, 0)", x.put(shelf, 0, 0), BAD);
        }
        due.is("nothing", x.put(0, 0, 1), -11);
        due.is("nothing, no place", x.put(0, -1, 1), -11);
        x.body(1);
        x.keep(0, 0);
        due.is("a body", x.put(0, 0, 1), -12);
        due.is("a body, no place", x.put(0, 99, 1), -12);
        x.row(0, 2, 3);
        for (int i : new int[] {-1, 3, 60, Due.LOW, Due.HIGH}) {
            due.is("put(0, " + i + ", 1)", x.put(0, i, 1), -13);
        }
        for (int i = 0; i < 3; i++) {
            due.is("put(0, " + i + ", 7)", x.put(0, i, 7 + i), 1);
        }
        for (int i = 0; i < 3; i++) {
            due.is("element(0, " + i + ")", x.element(0, i), 7 + i);
        }
        x.row(1, 2, 3);
        due.is("another row", x.element(1, 0), 0);
        x.row(2, 2, 0);
        due.is("no elements", x.put(2, 0, 1), -13);
    }

    private static void kept(int sort, long v, long want) {
        OneLamp x = new OneLamp();
        x.row(5, sort, 60);
        due.is("put(5, 59, " + v + ") of sort " + sort, x.put(5, 59, v), 1);
        due.is("element of " + v + ", sort " + sort, x.element(5, 59), want);
        due.is("the one ahead", x.element(5, 58), 0);
    }

    private static void narrowing() {
        due.of("promise 32, lowest bits");
        kept(0, 127, 127);
        kept(0, 128, -128);
        kept(0, 255, -1);
        kept(0, 256, 0);
        kept(0, -129, 127);
        kept(0, Long.MAX_VALUE, -1);
        kept(1, 32767, 32767);
        kept(1, 32768, -32768);
        kept(1, 65535, -1);
        kept(1, 65536 + 9, 9);
        kept(1, -32769, 32767);
        kept(2, Due.HIGH, Due.HIGH);
        kept(2, 1L << 31, Due.LOW);
        kept(2, (1L << 32) + 3, 3);
        kept(2, -1, -1);
        kept(2, Long.MIN_VALUE, 0);
        kept(3, Long.MAX_VALUE, Long.MAX_VALUE);
        kept(3, Long.MIN_VALUE, Long.MIN_VALUE);
        kept(3, -5, -5);
        kept(4, 0, 0);
        kept(4, 1, 1);
        kept(4, -1, 1);
        kept(4, 2, 1);
        kept(4, 1L << 32, 1);
        kept(4, Long.MIN_VALUE, 1);
    }

    private static void element() {
        due.of("promise 33");
        OneLamp x = new OneLamp();
        for (int shelf : new int[] {-1, 6, Due.LOW, Due.HIGH, 0}) {
            due.is("element(" + shelf + ", 0)", x.element(shelf, 0), Long.MIN_VALUE);
        }
        x.body(1);
        x.keep(0, 0);
        due.is("a body", x.element(0, 0), Long.MIN_VALUE);
        Due.row(x, 0, 3, 5, -6);
        for (int i : new int[] {-1, 2, 60, Due.LOW, Due.HIGH}) {
            due.is("element(0, " + i + ")", x.element(0, i), Long.MIN_VALUE);
        }
        due.is("element(0, 0)", x.element(0, 0), 5);
        due.is("element(0, 1)", x.element(0, 1), -6);
        x.lamps(4);
        x.begin(2);
        due.is("rows stay", x.element(0, 1), -6);
    }

    private static void shiftRefuses() {
        due.of("promise 34, refused");
        OneLamp x = new OneLamp();
        Due.row(x, 0, 2, 1, 2, 3, 4);
        Due.row(x, 1, 2, 5, 6, 7);
        Due.row(x, 2, 1, 8, 9);
        x.body(0);
        x.keep(3, 0);
        for (int shelf : new int[] {-1, 6, Due.LOW, Due.HIGH}) {
            due.is("from shelf " + shelf, x.shift(shelf, 0, 0, 0, 1), BAD);
            due.is("to shelf " + shelf, x.shift(0, 0, shelf, 0, 1), BAD);
            due.is("from nothing to shelf " + shelf, x.shift(4, 0, shelf, 0, 1), BAD);
        }
        due.is("from nothing", x.shift(4, 0, 0, 0, 1), -11);
        due.is("to nothing", x.shift(0, 0, 4, 0, 1), -11);
        due.is("nothing to nothing, n below 0", x.shift(4, 0, 4, 0, -1), -11);
        due.is("a body to nothing", x.shift(3, 0, 4, 0, 1), -11);
        due.is("nothing to a body", x.shift(4, 0, 3, 0, 1), -11);
        due.is("from a body", x.shift(3, 0, 0, 0, 1), -12);
        due.is("to a body", x.shift(0, 0, 3, 0, 1), -12);
        due.is("a body to itself", x.shift(3, 0, 3, 0, 0), -12);
        due.is("ints to shorts", x.shift(0, 0, 2, 0, 1), -12);
        due.is("shorts to ints, n below 0", x.shift(2, 0, 0, 0, -1), -12);
        due.is("n 0 of unlike sorts", x.shift(2, 0, 0, 0, 0), -12);
        int[][] none = {{0, 0, -1}, {-1, 0, 1}, {0, -1, 1}, {0, 0, 4}, {4, 0, 1}, {0, 3, 1}, {5, 0, 0}, {0, 4, 0}, {3, 0, 2},
            {0, 2, 2}, {-1, 0, 0}, {0, -1, 0}, {Due.HIGH, 0, 1}, {0, Due.HIGH, 1}, {1, 1, Due.HIGH}, {Due.HIGH, 0, Due.HIGH},
            {Due.LOW, 0, 1}, {0, Due.LOW, 1}, {0, 0, Due.LOW}, {2, 0, 3}};
        for (int[] call : none) {
            due.is("shift(0, " + call[0] + ", 1, " + call[1] + ", " + call[2] + ")",
                x.shift(0, call[0], 1, call[1], call[2]), -13);
        }
        for (int i = 0; i < 3; i++) {
            due.is("nothing came", x.element(1, i), 5 + i);
        }
    }

    private static void shift() {
        due.of("promise 34");
        for (int sort = 0; sort < 5; sort++) {
            OneLamp x = new OneLamp();
            Due.row(x, 0, sort, 1, 0, 1, 1);
            Due.row(x, 1, sort, 0, 1, 0);
            due.is("n 0", x.shift(0, 4, 1, 3, 0), 0);
            due.is("two", x.shift(0, 2, 1, 0, 2), 2);
            due.is("element(1, 0)", x.element(1, 0), 1);
            due.is("element(1, 1)", x.element(1, 1), 1);
            due.is("element(1, 2)", x.element(1, 2), 0);
            due.is("element(0, 2)", x.element(0, 2), 1);
            due.is("three", x.shift(0, 1, 1, 0, 3), 3);
            due.is("element(1, 0)", x.element(1, 0), 0);
            due.is("element(1, 2)", x.element(1, 2), 1);
            x.put(0, 1, 1);
            due.is("rows stay apart", x.element(1, 0), 0);
        }
        OneLamp x = new OneLamp();
        Due.row(x, 0, 3, Long.MAX_VALUE, -2);
        x.row(5, 3, 60);
        due.is("to the end", x.shift(0, 0, 5, 58, 2), 2);
        due.is("element(5, 58)", x.element(5, 58), Long.MAX_VALUE);
        due.is("element(5, 59)", x.element(5, 59), -2);
        due.is("behind the end", x.shift(0, 0, 5, 59, 2), -13);
        x.row(1, 3, 60);
        due.is("sixty", x.shift(5, 0, 1, 0, 60), 60);
        due.is("element(1, 59)", x.element(1, 59), -2);
        x.row(2, 3, 0);
        due.is("n 0 of none", x.shift(2, 0, 2, 0, 0), 0);
        due.is("n 1 of none", x.shift(2, 0, 1, 0, 1), -13);
    }

    private static void shiftInOneRow() {
        due.of("promise 34, in one row");
        OneLamp x = new OneLamp();
        long[] up = {1, 1, 2, 3, 5};
        Due.row(x, 0, 1, 1, 2, 3, 4, 5);
        due.is("up", x.shift(0, 0, 0, 1, 3), 3);
        for (int i = 0; i < 5; i++) {
            due.is("element(0, " + i + ")", x.element(0, i), up[i]);
        }
        long[] down = {3, 4, 5, 4, 5};
        Due.row(x, 0, 1, 1, 2, 3, 4, 5);
        due.is("down", x.shift(0, 2, 0, 0, 3), 3);
        for (int i = 0; i < 5; i++) {
            due.is("element(0, " + i + ")", x.element(0, i), down[i]);
        }
        due.is("to its own place", x.shift(0, 0, 0, 0, 5), 5);
        due.is("too far", x.shift(0, 0, 0, 1, 5), -13);
    }

    private static void taken() {
        due.of("promise 35");
        OneLamp x = new OneLamp();
        for (int v : new int[] {-1, 6, Due.LOW, Due.HIGH}) {
            due.is("taken(" + v + ", 0)", x.taken(v, 0), BAD);
        }
        for (int v : new int[] {-1, 8, Due.LOW, Due.HIGH}) {
            due.is("taken(0, " + v + ")", x.taken(0, v), BAD);
        }
        due.is("nothing", x.taken(0, 3), -11);
        x.row(0, 0, 0);
        due.is("a row", x.taken(0, 0), -12);
        due.is("a row, no kind", x.taken(0, 8), BAD);
        String[] under = {"0", "01", "02", "023", "014", "0145", "06", "067"};
        for (int kind = 0; kind < 8; kind++) {
            x.keep(kind % 6, x.body(kind));
            for (int k = 0; k < 8; k++) {
                due.is("kind " + kind + " taken for " + k, x.taken(kind % 6, k),
                    under[kind].indexOf('0' + k) >= 0 ? kind : -12);
            }
        }
    }

    private static void count() {
        due.of("promise 36");
        OneLamp x = new OneLamp();
        for (int what : new int[] {-1, 5, Due.LOW, Due.HIGH}) {
            due.is("count(" + what + ")", x.count(what), BAD);
        }
        x.bar(3);
        Due.feed(x, "p+");
        x.cost(1, 2);
        x.cost(1, 3);
        x.cost(1, 4);
        x.body(0);
        x.body(1);
        x.body(2);
        x.body(3);
        x.act(3, 3, 1);
        int[] want = {1, 2, 3, 4, 7};
        for (int what = 0; what < 5; what++) {
            due.is("count(" + what + ")", x.count(what), want[what]);
        }
        x.undo();
        due.is("count(2)", x.count(2), 2);
        x.redo();
        due.is("count(2)", x.count(2), 3);
        x.act(0, 2, 1);
        due.is("count(4)", x.count(4), 1);
        for (int v : NUMBERS) {
            x.act(v, 0, 0);
            due.is("count(4)", x.count(4), 0);
        }
    }
}
