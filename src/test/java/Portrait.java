import java.util.ArrayList;
import java.util.LinkedHashMap;
import java.util.List;
import java.util.Map;

/**
 * All that can be learnt of an object, part by part, as numbers. What it hides (an image, the letters on its tape, what
 * can be undone) is brought to light by calls that change it: so an object is of no use behind its portrait.
 */
final class Portrait {
    static final String WALL = "wall", BARRED = "barred", REST = "rest", SHY = "shy", TRACE = "trace", SHELVES = "shelves",
        COST = "cost", LAW = "law", CHANGES = "changes", TAPE = "tape", BODIES = "bodies", IMAGE = "image";
    /** Narrowed in another way by each sort of row. */
    private static final long TELLS_SORTS_APART = 0x123456789ABCDEFL;

    private final OneLamp x;
    private final Map<String, List<Long>> parts = new LinkedHashMap<>();
    private List<Long> part;

    /** The order matters: what only asks comes first. */
    Portrait(OneLamp x) {
        this.x = x;
        begin(WALL);
        wall();
        begin(BARRED);
        barred();
        begin(REST);
        note(x.now(6));
        begin(SHY);
        note(x.now(7));
        begin(TRACE);
        trace();
        begin(SHELVES);
        shelves();
        begin(COST);
        costsOfTheWall();
        begin(CHANGES);
        changes();
        begin(LAW);
        law();
        begin(TAPE);
        note(x.count(1));
        note(x.law());
        law();
        begin(BODIES);
        bodies();
        begin(IMAGE);
        // An image keeps what is told barred, but no law.
        Due.law(x, "0");
        note(x.back());
        wall();
        barred();
    }

    Map<String, List<Long>> parts() {
        return parts;
    }

    private void begin(String name) {
        part = new ArrayList<>();
        parts.put(name, part);
    }

    private void note(long number) {
        part.add(number);
    }

    private int pictures() {
        return Math.min(1 << x.now(0), 16);
    }

    private void wall() {
        for (int what = 0; what < 5; what++) {
            note(x.now(what));
        }
        for (int p = 0; p < pictures(); p++) {
            note(x.picture(p, 0));
        }
        for (int l = 0; l < x.now(0); l++) {
            note(x.lamp(l, 1));
            note(x.lamp(l, 2));
        }
    }

    private void barred() {
        note(x.count(0));
        for (int p = 0; p < pictures(); p++) {
            note(x.picture(p, 1));
        }
    }

    private void trace() {
        note(x.count(4));
        for (int i = 0; i < x.count(4); i++) {
            note(x.trace(i));
        }
    }

    private void shelves() {
        for (int shelf = 0; shelf < 6; shelf++) {
            note(x.taken(shelf, 0));
            for (int i = 0; i < 60 && x.element(shelf, i) != Long.MIN_VALUE; i++) {
                note(x.element(shelf, i));
            }
            note(x.put(shelf, 0, TELLS_SORTS_APART));
            note(x.element(shelf, 0));
        }
    }

    private void costsOfTheWall() {
        for (int l = 0; l < x.now(0); l++) {
            note(x.lamp(l, 0));
        }
        note(x.now(5));
    }

    /** What each change did to any of ten lamps is seen on a wall of ten; but whether lamps() keeps them, ahead of it. */
    private void changes() {
        note(x.count(2));
        redoAll();
        for (int answer = 0; answer >= 0; ) {
            answer = x.undo();
            note(answer);
            note(x.now(5));
        }
        x.lamps(10);
        costsOfTheWall();
        redoAll();
    }

    private void redoAll() {
        for (int answer = 0; answer >= 0; ) {
            answer = x.redo();
            note(answer);
            note(x.now(5));
        }
    }

    /** Of four lamps that nothing is told barred of. */
    private void law() {
        x.lamps(4);
        for (int p = 0; p < 16; p++) {
            note(x.picture(p, 1));
        }
    }

    private void bodies() {
        note(x.count(3));
        for (int body = 0; body < x.count(3); body++) {
            x.keep(0, body);
            note(x.taken(0, 0));
        }
    }
}
