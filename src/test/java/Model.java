import java.math.BigInteger;
import java.util.ArrayDeque;
import java.util.ArrayList;
import java.util.Arrays;
import java.util.Collections;
import java.util.Deque;
import java.util.HashMap;
import java.util.List;
import java.util.Map;
import java.util.Set;
import java.util.TreeSet;

/**
 * The document once more, in its plainest and slowest form and with the whole Java library: a night is an entry in
 * a list, a row is a real array, a body a real object. What OneLamp answers is held against it.
 */
final class Model {
    private static final int BAD = -1, NOT = -2, FULL = -3, STATE = -5;
    private static final Map<List<Integer>, List<Integer>> WAYS_THROUGH = new HashMap<>();
    private static final BigInteger NIGHTS = BigInteger.ONE.shiftLeft(62);

    /** Nights since it was begun: all pictures it was at, and the lamp changed in each night. */
    private static final class Log {
        int n = 3;
        List<Integer> pictures = new ArrayList<>(List.of(0));
        List<Integer> changed = new ArrayList<>();
        int spent;
        Set<Integer> told = new TreeSet<>();

        Log copy() {
            Log log = new Log();
            log.n = n;
            log.pictures = new ArrayList<>(pictures);
            log.changed = new ArrayList<>(changed);
            log.spent = spent;
            log.told = new TreeSet<>(told);
            return log;
        }

        int at() {
            return pictures.get(pictures.size() - 1);
        }

        void anew(int picture) {
            pictures = new ArrayList<>(List.of(picture));
            changed = new ArrayList<>();
            spent = 0;
        }

        void go(int lamp) {
            pictures.add(at() ^ (1 << lamp));
            changed.add(lamp);
        }

        void goBack() {
            pictures.remove(pictures.size() - 1);
            changed.remove(changed.size() - 1);
        }
    }

    private Log log = new Log();
    private Log image;
    private int rest;
    private int shy;
    private String law;
    private final StringBuilder tape = new StringBuilder();
    private final int[] cost = new int[10];
    private final Deque<int[]> done = new ArrayDeque<>();
    private final Deque<int[]> undone = new ArrayDeque<>();
    private final List<ModelBodies.Way> bodies = new ArrayList<>();
    private List<Integer> trace = new ArrayList<>();
    private final Object[] shelves = new Object[6];

    Model() {
        Arrays.fill(cost, 1);
    }

    private boolean isPicture(int p) {
        return p >= 0 && p <= Math.pow(2, log.n) - 1;
    }

    private boolean barred(int p) {
        return log.told.contains(p) || law != null && ModelLaw.value(law, p, log.n) != 0;
    }

    private boolean mayChange(int lamp) {
        if (lamp < 0 || lamp >= log.n) {
            return false;
        }
        int next = log.at() ^ (1 << lamp);
        if (log.pictures.contains(next) || barred(next)) {
            return false;
        }
        int nights = log.changed.size();
        if (log.changed.subList(Math.max(0, nights - rest), nights).contains(lamp)) {
            return false;
        }
        if (shy == 1) {
            for (int had : log.pictures.subList(0, nights)) {
                if (Integer.bitCount(had ^ next) == 1) {
                    return false;
                }
            }
        }
        return true;
    }

    int lamps(int n) {
        if (n < 1 || n > 10) {
            return BAD;
        }
        int before = log.n;
        log = new Log();
        log.n = n;
        return before;
    }

    int begin(int p) {
        if (!isPicture(p)) {
            return BAD;
        }
        log.anew(p);
        return p;
    }

    int bar(int p) {
        return !isPicture(p) ? BAD : log.told.add(p) ? 1 : 0;
    }

    int bars(int shelf, int i, int n) {
        if (shelf < 0 || shelf > 5 || n < 1 || n > 30) {
            return BAD;
        }
        if (shelves[shelf] != null && !(shelves[shelf] instanceof short[])) {
            return -12;
        }
        short[] row = (short[]) shelves[shelf];
        int gone = 0;
        try {
            while (gone < n && isPicture(row[i + gone])) {
                log.told.add((int) row[i + gone]);
                gone++;
            }
        } catch (NullPointerException | ArrayIndexOutOfBoundsException end) {
            return gone;
        }
        return gone;
    }

    int feed(int letter) {
        if (letter < 0 || letter > 255) {
            return BAD;
        }
        if (tape.length() == 120) {
            return FULL;
        }
        tape.append((char) letter);
        return tape.length();
    }

    int law() {
        String text = tape.toString();
        tape.setLength(0);
        int fault = ModelLaw.fault(text);
        if (fault >= 0) {
            return -100 - fault;
        }
        law = text;
        return 1;
    }

    int set(int what, int v) {
        if (what == 0 && v >= 0 && v <= 9) {
            int before = rest;
            rest = v;
            return before;
        }
        if (what == 1 && v >= 0 && v <= 1) {
            int before = shy;
            shy = v;
            return before;
        }
        return BAD;
    }

    int cost(int lamp, int v) {
        if (lamp < 0 || lamp > 9 || v < 0 || v > 9) {
            return BAD;
        }
        int before = cost[lamp];
        if (before != v) {
            undone.clear();
            done.addLast(new int[] {lamp, before, v});
            if (done.size() > 40) {
                done.removeFirst();
            }
            cost[lamp] = v;
        }
        return before;
    }

    int now(int what) {
        switch (what) {
            case 0: return log.n;
            case 1: return log.at();
            case 2: return log.changed.size();
            case 3: return new TreeSet<>(log.pictures).size();
            case 4: return log.spent;
            case 5: return least();
            case 6: return rest;
            case 7: return shy;
            default: return BAD;
        }
    }

    /** Walks the mirror way itself, and tries the cheapest lamp for the place that is changed most often. */
    private int least() {
        int[] often = new int[log.n];
        for (int t = 1; t < 1 << log.n; t++) {
            often[Long.numberOfTrailingZeros(t)]++;
        }
        int[] prices = Arrays.copyOf(cost, log.n);
        Arrays.sort(prices);
        int least = 0;
        for (int k = 0; k < log.n; k++) {
            least += prices[k] * often[k];
        }
        return least;
    }

    int picture(int p, int what) {
        if (!isPicture(p) || what != 0 && what != 1) {
            return BAD;
        }
        return (what == 0 ? log.pictures.contains(p) : barred(p)) ? 1 : 0;
    }

    int lamp(int lamp, int what) {
        if (lamp < 0 || lamp >= log.n) {
            return BAD;
        }
        switch (what) {
            case 0: return cost[lamp];
            case 1: return Collections.frequency(log.changed, lamp);
            case 2: return log.changed.contains(lamp) ? log.changed.lastIndexOf(lamp) + 1 : NOT;
            default: return BAD;
        }
    }

    int may() {
        int bits = 0;
        for (int lamp = 0; lamp < 10; lamp++) {
            bits += mayChange(lamp) ? 1 << lamp : 0;
        }
        return bits;
    }

    int change(int lamp) {
        if (lamp < 0 || lamp >= log.n) {
            return BAD;
        }
        if (!mayChange(lamp)) {
            return NOT;
        }
        log.go(lamp);
        log.spent += cost[lamp];
        return log.at();
    }

    int longest(int i) {
        if (i < -1) {
            return BAD;
        }
        if (log.n > 4) {
            return STATE;
        }
        List<Integer> way = longestWay();
        return i == -1 ? way.size() : i < way.size() ? way.get(i) : BAD;
    }

    private List<Integer> longestWay() {
        List<Integer> best = new ArrayList<>();
        for (int lamp = 0; lamp < log.n; lamp++) {
            if (mayChange(lamp)) {
                log.go(lamp);
                List<Integer> way = longestWay();
                log.goBack();
                way.add(0, lamp);
                if (way.size() > best.size()) {
                    best = way;
                }
            }
        }
        return best;
    }

    int wished(int t) {
        return t < 0 || t > 15 ? BAD : log.n > 4 ? STATE : wishedIn(t);
    }

    private int wishedIn(int nights) {
        if (nights == 0) {
            return 1 << log.at();
        }
        int bits = 0;
        for (int lamp = 0; lamp < log.n; lamp++) {
            if (mayChange(lamp)) {
                log.go(lamp);
                bits |= wishedIn(nights - 1);
                log.goBack();
            }
        }
        return bits;
    }

    int game(int what) {
        if (what != 0 && what != 1) {
            return BAD;
        }
        if (log.n > 4) {
            return STATE;
        }
        int first = NOT;
        for (int lamp = log.n - 1; lamp >= 0; lamp--) {
            if (mayChange(lamp)) {
                log.go(lamp);
                if (!wins()) {
                    first = lamp;
                }
                log.goBack();
            }
        }
        return what == 1 ? first : first == NOT ? 0 : 1;
    }

    private boolean wins() {
        boolean wins = false;
        for (int lamp = 0; lamp < log.n && !wins; lamp++) {
            if (mayChange(lamp)) {
                log.go(lamp);
                wins = !wins();
                log.goBack();
            }
        }
        return wins;
    }

    int ways(int p, int m) {
        return !isPicture(p) || m < 0 || m > 5 ? BAD : waysTo(p, m);
    }

    private int waysTo(int p, int m) {
        if (m == 0) {
            return log.at() == p ? 1 : 0;
        }
        int ways = 0;
        for (int lamp = 0; lamp < log.n; lamp++) {
            if (mayChange(lamp)) {
                log.go(lamp);
                ways += waysTo(p, m - 1);
                log.goBack();
            }
        }
        return ways;
    }

    int judge(int shelf) {
        if (shelf < 0 || shelf > 5) {
            return BAD;
        }
        if (shelves[shelf] == null) {
            return -11;
        }
        if (!(shelves[shelf] instanceof short[])) {
            return -12;
        }
        short[] row = (short[]) shelves[shelf];
        Log mine = log;
        log = mine.copy();
        int place = 0;
        for (; place < row.length; place++) {
            if (!isPicture(row[place]) || barred(row[place])) {
                break;
            }
            if (place == 0) {
                log.anew(row[0]);
                continue;
            }
            int unlike = log.at() ^ row[place];
            if (Integer.bitCount(unlike) != 1 || !mayChange(Integer.numberOfTrailingZeros(unlike))) {
                break;
            }
            log.go(Integer.numberOfTrailingZeros(unlike));
        }
        log = mine;
        return place == row.length ? NOT : place;
    }

    long mirror(long v, int what) {
        BigInteger big = BigInteger.valueOf(v);
        if (big.signum() < 0 || big.compareTo(NIGHTS) >= 0 || what < 0 || what > 2) {
            return BAD;
        }
        if (what == 0) {
            return big.xor(big.shiftRight(1)).longValue();
        }
        if (what == 2) {
            return big.signum() == 0 ? NOT : big.getLowestSetBit();
        }
        BigInteger night = BigInteger.ZERO;
        boolean odd = false;
        for (int k = 61; k >= 0; k--) {
            odd ^= big.testBit(k);
            night = odd ? night.setBit(k) : night;
        }
        return night.longValue();
    }

    int several(int si, long night) {
        int s = Math.floorDiv(si, 100);
        int i = Math.floorMod(si, 100);
        BigInteger t = BigInteger.valueOf(night);
        if (s < 2 || s > 9 || i > 30 || t.signum() < 0 || t.compareTo(NIGHTS) >= 0) {
            return BAD;
        }
        BigInteger q = t.divide(BigInteger.valueOf(s).pow(i));
        int r = q.mod(BigInteger.valueOf(2 * s)).intValue();
        return r < s ? r : 2 * s - 1 - r;
    }

    int through(int a, int b, int i) {
        if (!isPicture(a) || !isPicture(b) || i < -1 || i >= Math.pow(2, log.n) - 1) {
            return BAD;
        }
        boolean is = Integer.bitCount(a ^ b) % 2 != 0;
        if (i == -1) {
            return is ? 1 : 0;
        }
        if (log.n > 4) {
            return STATE;
        }
        if (log.n == 4 && !is) {
            // Trying all ways of four lamps in vain takes long; with fewer lamps it is tried.
            return NOT;
        }
        List<Integer> way = WAYS_THROUGH.computeIfAbsent(List.of(log.n, a, b), pair -> wayThrough(a, b));
        return way.isEmpty() ? NOT : way.get(i);
    }

    private List<Integer> wayThrough(int a, int b) {
        List<Integer> way = new ArrayList<>();
        through(new ArrayList<>(List.of(a)), way, b);
        return way;
    }

    private boolean through(List<Integer> seen, List<Integer> way, int b) {
        int at = seen.get(seen.size() - 1);
        if (seen.size() == 1 << log.n) {
            return at == b;
        }
        for (int lamp = 0; lamp < log.n; lamp++) {
            if (!seen.contains(at ^ (1 << lamp))) {
                seen.add(at ^ (1 << lamp));
                way.add(lamp);
                if (through(seen, way, b)) {
                    return true;
                }
                seen.remove(seen.size() - 1);
                way.remove(way.size() - 1);
            }
        }
        return false;
    }

    int image() {
        image = log.copy();
        return log.changed.size();
    }

    int back() {
        if (image == null) {
            return STATE;
        }
        log = image.copy();
        return log.changed.size();
    }

    int undo() {
        if (done.isEmpty()) {
            return STATE;
        }
        int[] latest = done.removeLast();
        cost[latest[0]] = latest[1];
        undone.addLast(latest);
        return done.size();
    }

    int redo() {
        if (undone.isEmpty()) {
            return STATE;
        }
        int[] latest = undone.removeLast();
        cost[latest[0]] = latest[2];
        done.addLast(latest);
        return undone.size();
    }

    int body(int kind) {
        if (kind < 0 || kind > 7) {
            return BAD;
        }
        if (bodies.size() == 50) {
            return FULL;
        }
        bodies.add(ModelBodies.made(kind, bodies.size()));
        return bodies.size() - 1;
    }

    int act(int body, int act, int x) {
        trace = new ArrayList<>();
        if (body < 0 || body >= bodies.size()) {
            return 0;
        }
        ModelBodies.Way way = bodies.get(body);
        way.ran = trace;
        switch (act) {
            case 0: return way.lights(x);
            case 1: return way.shows(x);
            case 2: return way.rests(x);
            case 3: return way.tells(x);
            default: return 0;
        }
    }

    int trace(int i) {
        return i >= 0 && i < 24 && i < trace.size() ? trace.get(i) : BAD;
    }

    int keep(int shelf, int body) {
        if (shelf < 0 || shelf > 5 || body < -1 || body >= bodies.size()) {
            return BAD;
        }
        shelves[shelf] = body == -1 ? null : bodies.get(body);
        return 1;
    }

    int row(int shelf, int sort, int n) {
        if (shelf < 0 || shelf > 5 || sort < 0 || sort > 4 || n > 60) {
            return BAD;
        }
        try {
            shelves[shelf] = sort == 0 ? new byte[n] : sort == 1 ? new short[n] : sort == 2 ? new int[n]
                : sort == 3 ? new long[n] : new boolean[n];
        } catch (NegativeArraySizeException refusal) {
            return -14;
        }
        return 1;
    }

    int put(int shelf, int i, long v) {
        if (shelf < 0 || shelf > 5) {
            return BAD;
        }
        Object row = shelves[shelf];
        if (row == null) {
            return -11;
        }
        try {
            if (row instanceof byte[]) {
                ((byte[]) row)[i] = (byte) v;
            } else if (row instanceof short[]) {
                ((short[]) row)[i] = (short) v;
            } else if (row instanceof int[]) {
                ((int[]) row)[i] = (int) v;
            } else if (row instanceof boolean[]) {
                ((boolean[]) row)[i] = v != 0;
            } else {
                ((long[]) row)[i] = v;
            }
        } catch (ClassCastException refusal) {
            return -12;
        } catch (ArrayIndexOutOfBoundsException refusal) {
            return -13;
        }
        return 1;
    }

    long element(int shelf, int i) {
        if (shelf < 0 || shelf > 5 || shelves[shelf] == null || shelves[shelf] instanceof ModelBodies.Way) {
            return Long.MIN_VALUE;
        }
        Object row = shelves[shelf];
        if (i < 0 || i >= java.lang.reflect.Array.getLength(row)) {
            return Long.MIN_VALUE;
        }
        return row instanceof boolean[] ? (((boolean[]) row)[i] ? 1 : 0) : java.lang.reflect.Array.getLong(row, i);
    }

    @SuppressWarnings("SuspiciousSystemArraycopy")
    int shift(int shelf, int i, int other, int j, int n) {
        if (shelf < 0 || shelf > 5 || other < 0 || other > 5) {
            return BAD;
        }
        try {
            System.arraycopy(shelves[shelf], i, shelves[other], j, n);
        } catch (NullPointerException refusal) {
            return -11;
        } catch (ArrayStoreException refusal) {
            return -12;
        } catch (IndexOutOfBoundsException refusal) {
            return -13;
        }
        return n;
    }

    int taken(int shelf, int k) {
        if (shelf < 0 || shelf > 5 || k < 0 || k > 7) {
            return BAD;
        }
        if (shelves[shelf] == null) {
            return -11;
        }
        return ModelBodies.CLASSES.get(k).isInstance(shelves[shelf])
            ? ModelBodies.CLASSES.indexOf(shelves[shelf].getClass()) : -12;
    }

    int count(int what) {
        switch (what) {
            case 0: return log.told.size();
            case 1: return tape.length();
            case 2: return done.size();
            case 3: return bodies.size();
            case 4: return trace.size();
            default: return BAD;
        }
    }
}
