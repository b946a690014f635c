import java.lang.management.ManagementFactory;

/**
 * All calls of a run live in one room of some 600,000 objects and 7.3 million fields and elements. An element takes a
 * byte or more and an object sixteen: so what takes fewer bytes than a share of 7.3 million fits, both ways.
 */
public final class RoomTest {
    private static final long ROOM = 7_300_000, OBJECTS = 20;
    private static final com.sun.management.ThreadMXBean MEMORY =
        (com.sun.management.ThreadMXBean) ManagementFactory.getThreadMXBean();

    public static void main(String[] args) {
        Due due = new Due("RoomTest");
        // What the machine itself takes when it meets a class for the first time is not counted.
        calls(new OneLamp());
        taken();
        long before = taken();
        OneLamp x = new OneLamp();
        long made = taken() - before;
        due.is("a new object, " + made + " bytes, is small", made < ROOM / OBJECTS / 2 ? 1 : 0, 1);
        before = taken();
        calls(x);
        long used = taken() - before;
        due.is("its calls, " + used + " bytes, take little", used < ROOM / OBJECTS / 2 ? 1 : 0, 1);
        due.end();
    }

    private static long taken() {
        return MEMORY.getThreadAllocatedBytes(Thread.currentThread().getId());
    }

    private static void calls(OneLamp x) {
        x.lamps(4);
        for (int k = 0; k < 12; k++) {
            x.feed("(p*3+l)%7=".charAt(k % 10));
            x.law();
            x.cost(k % 10, k % 3);
            x.undo();
            x.redo();
            x.body(k % 8);
            x.act(k, 3, k);
            x.trace(k);
            x.keep(k % 6, k % 2);
            x.row(k % 6, 1, 60);
            x.put(k % 6, k, 3);
            x.element(k % 6, k);
            x.shift(k % 6, 0, k % 6, 1, 9);
            x.taken(k % 6, 0);
            x.bars(k % 6, 5, 30);
            x.bar(k);
            x.picture(k, 1);
            x.lamp(0, 2);
            x.now(5);
            x.count(0);
            x.judge(k % 6);
            x.image();
            x.back();
            x.lamps(4);
            x.set(0, k % 3);
            x.set(1, k % 2);
            x.may();
            x.change(k % 4);
            x.longest(-1);
            x.wished(k);
            x.game(1);
            x.ways(k, 5);
            x.mirror(k, k % 3);
            x.several(930, k);
            x.through(0, 1 << k % 4, 3);
            x.begin(k);
        }
    }
}
