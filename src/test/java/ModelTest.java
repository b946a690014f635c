import java.util.ArrayList;
import java.util.List;
import java.util.Random;

/** Long runs of calls, the same ones each time, on OneLamp and on the Model: every answer must be the same. */
public final class ModelTest {
    private static final String[] LAWS = {
        "0", "1", "p=5", "l>2", "h=3", "p%3=1", "n-1=h&l<2", "l=2?p>6;0", "p<2?0;l%2?1;h>3", "!(p/0)-1", "p*p%7>4",
        "(p=3)|(p=12)", "-l+2<0", "!p", "!!p&!l", "p/-2<-3", "n=3?l=3;n=4?l=4;p=9", "((p)+(l))%5=0", "9999", "0?1",
        "p%-4<0", "h*h-l>3|p=0", "p-1-1=2", "8/2/2=p", "p=1?0;p=2?0;l=1", "l<p>1", "p%16=6?1;p%16=9", "1-1-p%7*2/4",
        "99999", "p?p?p", "p=1;", ";", "", "q", "((((((p))))))", "(((((((p)))))))", "!-!-!-p", "!-!-!-!p", "1 +1", "p)",
        "(p", "p+", "p|&l", "2p", "pl", "12345", "()", "p<", "p<l<n", "(p<l)<n", "p=1=1", "p*(l-(h+(n%(2+(1*(3))))))",
        "p*(l-(h+(n%(2+(1*((3)))))))", "-(-(-(p-1)))-1", "0000|p=0007",
    };

    /** What an object answers behind its 512th call is free. */
    private static final int MOST_CALLS = 512, MOST_AT_ONCE = 145;

    private final Random random;
    private final OneLamp lamp = new OneLamp();
    private final Model model = new Model();
    private final Due due;
    private final int seed;
    private final List<String> calls = new ArrayList<>();
    private final int wallSize;

    private ModelTest(int seed, Due due) {
        this.seed = seed;
        this.due = due;
        random = new Random(seed);
        wallSize = 1 + seed % 10;
    }

    public static void main(String[] args) {
        int runs = args.length > 0 ? Integer.parseInt(args[0]) : 3000;
        Due due = new Due("ModelTest");
        for (int seed = 0; seed < runs; seed++) {
            new ModelTest(seed, due).run();
        }
        due.end();
    }

    private void run() {
        if (random.nextInt(5) > 0) {
            lamps(wallSize);
        }
        while (calls.size() < MOST_CALLS - MOST_AT_ONCE) {
            int theme = seed / 10 % 5;
            int chosen = random.nextInt(10) < 7 ? theme : random.nextInt(5);
            switch (chosen) {
                case 0: wallCall(); break;
                case 1: nightCall(); break;
                case 2: lawCall(); break;
                case 3: shelfCall(); break;
                default: costCall();
            }
        }
        for (int what = -1; what < 9; what++) {
            is("now", lamp.now(what), model.now(what), what);
            is("count", lamp.count(what), model.count(what), what);
        }
    }

    private void is(String name, long got, long want, long... arguments) {
        StringBuilder call = new StringBuilder(name).append('(');
        for (int k = 0; k < arguments.length; k++) {
            call.append(k == 0 ? "" : ", ").append(arguments[k]);
        }
        calls.add(call.append(')').toString());
        due.is("seed " + seed + ", call " + calls.size() + " " + calls.get(calls.size() - 1), got, want);
    }

    /** Mostly a number from low to high, at times one beside them, or any. */
    private int number(int low, int high) {
        int luck = random.nextInt(60);
        if (luck == 0) {
            return low - 1;
        }
        if (luck == 1) {
            return high + 1;
        }
        if (luck == 2) {
            return random.nextInt();
        }
        if (luck == 3) {
            return random.nextBoolean() ? Integer.MIN_VALUE : Integer.MAX_VALUE;
        }
        return low + random.nextInt(high - low + 1);
    }

    private int somePicture() {
        int size = 1 << model.now(0);
        return random.nextInt(4) == 0 ? number(0, size - 1) : (model.now(1) ^ (1 << random.nextInt(model.now(0))))
            ^ (random.nextBoolean() ? 1 << random.nextInt(model.now(0)) : 0);
    }

    private long someLong() {
        switch (random.nextInt(6)) {
            case 0: return random.nextLong();
            case 1: return random.nextLong() >>> 2;
            case 2: return (1L << random.nextInt(64)) - random.nextInt(2);
            case 3: return random.nextInt();
            default: return random.nextInt(300);
        }
    }

    private void lamps(int n) {
        is("lamps", lamp.lamps(n), model.lamps(n), n);
    }

    private void wallCall() {
        int a = somePicture();
        int b = number(0, 2);
        switch (random.nextInt(14)) {
            case 0:
                if (random.nextInt(3) == 0) {
                    lamps(random.nextInt(3) == 0 ? number(1, 10) : wallSize);
                }
                break;
            case 1:
                if (random.nextInt(3) == 0) {
                    is("begin", lamp.begin(a), model.begin(a), a);
                }
                break;
            case 2: is("bar", lamp.bar(a), model.bar(a), a); break;
            case 3: case 4: setCall(); break;
            case 5: is("image", lamp.image(), model.image()); break;
            case 6:
                if (random.nextBoolean()) {
                    is("back", lamp.back(), model.back());
                }
                break;
            case 7: is("now", lamp.now(b + 2), model.now(b + 2), b + 2); break;
            case 8: is("now", lamp.now(b), model.now(b), b); break;
            case 9: is("picture", lamp.picture(a, b), model.picture(a, b), a, b); break;
            case 10:
                int l = number(0, model.now(0) - 1);
                is("lamp", lamp.lamp(l, b), model.lamp(l, b), l, b);
                break;
            default: changeCall();
        }
    }

    private void setCall() {
        int what = number(0, 1);
        int v = random.nextInt(3) == 0 ? number(0, 9) : number(0, 2);
        is("set", lamp.set(what, v), model.set(what, v), what, v);
    }

    private void changeCall() {
        int l = number(0, model.now(0) - 1);
        int may = model.may();
        is("may", lamp.may(), may);
        if (may != 0 && random.nextInt(4) > 0) {
            while ((may >> (l & 15) & 1) == 0) {
                l = random.nextInt(model.now(0));
            }
        }
        is("change", lamp.change(l), model.change(l), l);
    }

    private void nightCall() {
        int i = number(-1, 8);
        int t = number(0, 15);
        int w = number(0, 1);
        int m = number(0, 5);
        int p = somePicture();
        // A wide empty wall makes the Model's plain searches slow: it is thought about when some nights have gone by.
        boolean wide = model.now(0) == 4 && model.now(3) + model.count(0) < 4 || model.now(0) > 6 && m > 3;
        switch (random.nextInt(wide ? 5 : 10)) {
            case 0: case 1: changeCall(); break;
            case 2: is("bar", lamp.bar(p), model.bar(p), p); break;
            case 3: logCall(); break;
            case 4:
                setCall();
                lawText();
                break;
            case 5: case 6: is("longest", lamp.longest(i), model.longest(i), i); break;
            case 7: is("wished", lamp.wished(t), model.wished(t), t); break;
            case 8: is("game", lamp.game(w), model.game(w), w); break;
            default: is("ways", lamp.ways(p, m), model.ways(p, m), p, m);
        }
    }

    /** A row of shorts that goes mostly as a log does, and what is judged and barred by it. */
    private void logCall() {
        int shelf = number(0, 5);
        int n = random.nextInt(12);
        is("row", lamp.row(shelf, 1, n), model.row(shelf, 1, n), shelf, 1, n);
        int at = somePicture();
        for (int k = 0; k < n; k++) {
            is("put", lamp.put(shelf, k, at), model.put(shelf, k, at), shelf, k, at);
            at ^= random.nextInt(12) == 0 ? random.nextInt(40) : 1 << random.nextInt(model.now(0));
        }
        is("judge", lamp.judge(shelf), model.judge(shelf), shelf);
        if (random.nextInt(8) == 0) {
            int i = number(0, 6);
            int m = number(1, 4);
            is("bars", lamp.bars(shelf, i, m), model.bars(shelf, i, m), shelf, i, m);
        }
    }

    private void lawText() {
        String text = LAWS[random.nextInt(LAWS.length)];
        if (random.nextInt(4) == 0) {
            StringBuilder made = new StringBuilder(ownLine());
            if (random.nextBoolean() && made.length() > 0) {
                made.setCharAt(random.nextInt(made.length()), "()!-+*/%<=>&|?;plnh0123 x".charAt(random.nextInt(25)));
            }
            text = made.substring(0, Math.min(made.length(), 130));
        }
        for (char c : text.toCharArray()) {
            is("feed", lamp.feed(c), model.feed(c), c);
        }
        is("count", lamp.count(1), model.count(1), 1);
        is("law", lamp.law(), model.law());
        for (int k = 0; k < 4; k++) {
            int p = somePicture();
            is("picture", lamp.picture(p, 1), model.picture(p, 1), p, 1);
        }
    }

    private String ownLine() {
        String line = random.nextInt(3) == 0 ? expression(3) + "?" + expression(2) + ";" + expression(2) : expression(4);
        return random.nextInt(4) == 0 ? line + ";" + expression(1) : line;
    }

    private String expression(int depth) {
        if (depth == 0 || random.nextInt(8) == 0) {
            return random.nextInt(3) == 0 ? "" + random.nextInt(random.nextInt(4) == 0 ? 10000 : 9)
                : "" + "plnh".charAt(random.nextInt(4));
        }
        switch (random.nextInt(7)) {
            case 0: return "(" + expression(depth - 1) + ")";
            case 1: return "-" + expression(0);
            case 2: return "!(" + expression(depth - 1) + ")";
            default: return expression(depth - 1) + "|&<=>+-*/%".charAt(random.nextInt(10)) + expression(depth - 1);
        }
    }

    private void lawCall() {
        int what = number(0, 2);
        long v = someLong();
        int si = random.nextInt(9) == 0 ? random.nextInt() : 100 * number(2, 9) + number(0, 30);
        int a = somePicture();
        int b = random.nextInt(3) == 0 ? somePicture() : a ^ (1 << random.nextInt(model.now(0)));
        int i = number(-1, (1 << model.now(0)) - 2);
        int letter = number(0, 255);
        switch (random.nextInt(12)) {
            case 0: case 1: is("mirror", lamp.mirror(v, what), model.mirror(v, what), v, what); break;
            case 2: case 3: is("several", lamp.several(si, v), model.several(si, v), si, v); break;
            case 4: case 5: is("through", lamp.through(a, b, i), model.through(a, b, i), a, b, i); break;
            case 6: is("image", lamp.image(), model.image()); break;
            case 7: is("back", lamp.back(), model.back()); break;
            case 8: changeCall(); break;
            case 9: is("feed", lamp.feed(letter), model.feed(letter), letter); break;
            default: lawText();
        }
    }

    private void shelfCall() {
        int shelf = number(0, 5);
        int other = number(0, 5);
        int i = random.nextInt(4) == 0 ? number(0, 60) : number(0, 4);
        int j = number(0, 4);
        int n = random.nextInt(6) == 0 ? number(-2, 60) : number(-1, 6);
        int sort = number(0, 4);
        int body = number(-1, Math.max(0, model.count(3) - 1));
        int act = number(0, 3);
        int x = random.nextInt(3) == 0 ? random.nextInt() : number(-9, 9);
        long v = someLong();
        switch (random.nextInt(13)) {
            case 0:
                if (random.nextInt(3) == 0) {
                    int kind = number(0, 7);
                    is("body", lamp.body(kind), model.body(kind), kind);
                }
                break;
            case 1: case 2:
                is("act", lamp.act(body, act, x), model.act(body, act, x), body, act, x);
                is("count", lamp.count(4), model.count(4), 4);
                for (int k = -1; k < 12; k++) {
                    is("trace", lamp.trace(k), model.trace(k), k);
                }
                break;
            case 3: is("keep", lamp.keep(shelf, body), model.keep(shelf, body), shelf, body); break;
            case 4: case 5: is("row", lamp.row(shelf, sort, n), model.row(shelf, sort, n), shelf, sort, n); break;
            case 6: case 7: is("put", lamp.put(shelf, j, v), model.put(shelf, j, v), shelf, j, v); break;
            case 8: case 9: shiftCall(shelf, i, other, j, n); break;
            case 10: is("taken", lamp.taken(shelf, act * 2), model.taken(shelf, act * 2), shelf, act * 2); break;
            case 11: is("taken", lamp.taken(shelf, sort), model.taken(shelf, sort), shelf, sort); break;
            default: askedOfShelf(shelf);
        }
    }

    private void shiftCall(int shelf, int i, int other, int j, int n) {
        int to = random.nextInt(3) == 0 ? shelf : other;
        is("shift", lamp.shift(shelf, i, to, j, n), model.shift(shelf, i, to, j, n), shelf, i, to, j, n);
        for (int k = -1; k < 8; k++) {
            is("element", lamp.element(to, k), model.element(to, k), to, k);
        }
    }

    private void askedOfShelf(int shelf) {
        int i = number(-1, 60);
        is("element", lamp.element(shelf, i), model.element(shelf, i), shelf, i);
        is("judge", lamp.judge(shelf), model.judge(shelf), shelf);
        int n = number(1, 30);
        int from = number(-1, 5);
        is("bars", lamp.bars(shelf, from, n), model.bars(shelf, from, n), shelf, from, n);
        is("count", lamp.count(0), model.count(0), 0);
    }

    private void costCall() {
        int l = number(0, 9);
        int v = number(0, 9);
        switch (random.nextInt(14)) {
            case 0: case 1: is("undo", lamp.undo(), model.undo()); break;
            case 2: is("redo", lamp.redo(), model.redo()); break;
            case 3: is("now", lamp.now(5), model.now(5), 5); break;
            case 4: is("now", lamp.now(4), model.now(4), 4); break;
            case 5: is("lamp", lamp.lamp(l, 0), model.lamp(l, 0), l, 0); break;
            case 6: is("count", lamp.count(2), model.count(2), 2); break;
            case 7: changeCall(); break;
            case 8:
                if (random.nextInt(30) == 0) {
                    for (int k = 0; k < 42; k++) {
                        is("undo", lamp.undo(), model.undo());
                    }
                    for (int k = 0; k < 42; k++) {
                        is("redo", lamp.redo(), model.redo());
                        is("now", lamp.now(5), model.now(5), 5);
                    }
                }
                break;
            default: is("cost", lamp.cost(l, v), model.cost(l, v), l, v);
        }
    }
}
