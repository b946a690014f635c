/** Promises 20 to 26: by law. */
public final class ByLawTest {
    private static final int BAD = Due.BAD, NOT = Due.NOT, STATE = Due.STATE;
    private static final long END = 1L << 62;
    private static final Due due = new Due("ByLawTest");

    public static void main(String[] args) {
        mirror();
        mirrorIsTheDocuments();
        several();
        throughRefuses();
        throughFinds();
        throughIsAWay();
        image();
        imageKeepsNoMore();
        undo();
        redo();
        fortyChanges();
        due.end();
    }

    private static void mirror() {
        due.of("promise 20");
        OneLamp x = new OneLamp();
        for (long v : new long[] {-1, END, END + 1, Long.MIN_VALUE, Long.MAX_VALUE}) {
            for (int what = 0; what < 3; what++) {
                due.is("mirror(" + v + ", " + what + ")", x.mirror(v, what), BAD);
            }
        }
        for (int what : new int[] {-1, 3, Due.LOW, Due.HIGH}) {
            due.is("mirror(5, " + what + ")", x.mirror(5, what), BAD);
            due.is("mirror(0, " + what + ")", x.mirror(0, what), BAD);
        }
        long[] pictures = {0, 1, 3, 2, 6, 7, 5, 4, 12};
        int[] lamps = {NOT, 0, 1, 0, 2, 0, 1, 0, 3};
        for (int t = 0; t < pictures.length; t++) {
            due.is("mirror(" + t + ", 0)", x.mirror(t, 0), pictures[t]);
            due.is("mirror(" + pictures[t] + ", 1)", x.mirror(pictures[t], 1), t);
            due.is("mirror(" + t + ", 2)", x.mirror(t, 2), lamps[t]);
        }
        due.is("the last picture", x.mirror(END - 1, 0), 1L << 61);
        due.is("its night", x.mirror(1L << 61, 1), END - 1);
        due.is("its lamp", x.mirror(END - 1, 2), 0);
        due.is("the middle's picture", x.mirror(1L << 61, 0), 3L << 60);
        due.is("its night", x.mirror(3L << 60, 1), 1L << 61);
        due.is("its lamp", x.mirror(1L << 61, 2), 61);
        due.is("all lit: the night", x.mirror(END - 1, 1), 0x2AAAAAAAAAAAAAAAL);
        x = new OneLamp();
        for (int k = 0; k < 62; k++) {
            due.is("lamp of 2 to the " + k, x.mirror(1L << k, 2), k);
            due.is("lamp of 2 to the " + k + ", odd times", x.mirror((1L << k) * 3 % END, 2), k == 61 ? 61 : k);
            due.is("picture of 2 to the " + k, x.mirror(1L << k, 0), 1L << k | 1L << k >> 1);
            due.is("night of 2 to the " + k, x.mirror(1L << k, 1), (1L << k << 1) - 1);
        }
    }

    /** As told: the way of one lamp fewer, then the lamp lit, then the same back. */
    private static void mirrorIsTheDocuments() {
        due.of("promise 20, there and back");
        OneLamp x = new OneLamp();
        int[] way = {0};
        for (int lamp = 0; lamp < 11; lamp++) {
            int[] longer = new int[2 * way.length];
            for (int t = 0; t < way.length; t++) {
                longer[t] = way[t];
                longer[longer.length - 1 - t] = way[t] + (1 << lamp);
            }
            way = longer;
        }
        for (int t = 0; t < way.length; t++) {
            x = t % 100 == 0 ? new OneLamp() : x;
            due.is("mirror(" + t + ", 0)", x.mirror(t, 0), way[t]);
            due.is("mirror(" + way[t] + ", 1)", x.mirror(way[t], 1), t);
            if (t > 0) {
                due.is("lamp of " + t, 1L << x.mirror(t, 2), way[t] ^ way[t - 1]);
            }
        }
        long v = 1;
        for (int k = 0; k < 500; k++) {
            x = k % 50 == 0 ? new OneLamp() : x;
            v = v * 6364136223846793005L + 1442695040888963407L & END - 1;
            due.is("the night of the picture of " + v, x.mirror(x.mirror(v, 0), 1), v);
            due.is("the picture of the night of " + v, x.mirror(x.mirror(v, 1), 0), v);
            due.is("unlike the night before", v == 0 ? NOT : 1L << x.mirror(v, 2),
                v == 0 ? NOT : x.mirror(v, 0) ^ x.mirror(v - 1, 0));
        }
    }

    private static void several() {
        due.of("promise 21");
        OneLamp x = new OneLamp();
        for (int si : new int[] {0, 30, 100, 130, 199, 231, 299, 931, 999, 1000, 1030, -200, -1, -230, Due.LOW, Due.HIGH}) {
            due.is("several(" + si + ", 0)", x.several(si, 0), BAD);
        }
        for (long t : new long[] {-1, END, Long.MIN_VALUE, Long.MAX_VALUE}) {
            due.is("several(200, " + t + ")", x.several(200, t), BAD);
            due.is("several(930, " + t + ")", x.several(930, t), BAD);
        }
        int[] of3 = {0, 1, 2, 2, 1, 0, 0, 1, 2, 2};
        for (int t = 0; t < of3.length; t++) {
            due.is("several(300, " + t + ")", x.several(300, t), of3[t]);
            due.is("several(301, " + t * 3 + ")", x.several(301, t * 3L), of3[t]);
            due.is("several(301, " + (t * 3 + 2) + ")", x.several(301, t * 3L + 2), of3[t]);
            due.is("several(302, " + (t * 9 + 8) + ")", x.several(302, t * 9L + 8), of3[t]);
        }
        due.is("several(200, 1)", x.several(200, 1), 1);
        due.is("several(200, 2)", x.several(200, 2), 1);
        due.is("several(200, 3)", x.several(200, 3), 0);
        due.is("several(900, 9)", x.several(900, 9), 8);
        due.is("several(900, 17)", x.several(900, 17), 0);
        due.is("several(900, 18)", x.several(900, 18), 0);
        long high = 1;
        for (int k = 0; k < 19; k++) {
            high *= 9;
        }
        due.is("several(919, 9 to the 19)", x.several(919, high), 1);
        due.is("several(919, 2 * 9 to the 19 less 1)", x.several(919, 2 * high - 1), 1);
        due.is("several(919, 2 * 9 to the 19)", x.several(919, 2 * high), 2);
        due.is("several(920, 2 ^ 62 less 1)", x.several(920, END - 1), 0);
        due.is("several(930, 2 ^ 62 less 1)", x.several(930, END - 1), 0);
        due.is("several(230, 2 ^ 30)", x.several(230, 1L << 30), 1);
        due.is("several(230, 2 ^ 31)", x.several(230, 1L << 31), 1);
        due.is("several(230, 3 * 2 ^ 30)", x.several(230, 3L << 30), 0);
        for (int t = 0; t < 700; t++) {
            int picture = 0;
            x = t % 20 == 0 ? new OneLamp() : x;
            for (int l = 0; l < 12; l++) {
                picture |= x.several(200 + l, t) << l;
            }
            due.is("two states are the mirror way, night " + t, picture, x.mirror(t, 0));
        }
        due.is("4 states, lamp 29", x.several(429, 1L << 59), 2);
    }

    private static void throughRefuses() {
        due.of("promise 22, refused");
        OneLamp x = new OneLamp();
        int[][] refused = {{-1, 0, -1}, {0, -1, -1}, {8, 1, -1}, {0, 8, -1}, {0, 1, -2}, {0, 1, 7}, {0, 3, 7}, {1, 1, 7},
            {0, 8, 0}, {Due.LOW, 0, 0}, {0, Due.HIGH, 0}, {0, 1, Due.LOW}, {0, 1, Due.HIGH},
            {0, 3, -2}, {0, 0, -2}};
        for (int[] call : refused) {
            due.is("through(" + call[0] + ", " + call[1] + ", " + call[2] + ")", x.through(call[0], call[1], call[2]), BAD);
        }
        due.is("through(0, 3, 6)", x.through(0, 3, 6), NOT);
        due.is("through(0, 0, 0)", x.through(0, 0, 0), NOT);
        due.is("through(0, 0, -1)", x.through(0, 0, -1), 0);
        x.lamps(5);
        due.is("5 lamps: whether", x.through(0, 31, -1), 1);
        due.is("5 lamps: whether", x.through(0, 30, -1), 0);
        due.is("5 lamps: the first", x.through(0, 31, 0), STATE);
        due.is("5 lamps: the last", x.through(0, 31, 30), STATE);
        due.is("5 lamps: none such", x.through(0, 31, 31), BAD);
        due.is("5 lamps: STATE comes ahead of NOT", x.through(0, 3, 0), STATE);
        due.is("5 lamps: i -2", x.through(0, 31, -2), BAD);
        due.is("5 lamps: no picture", x.through(0, 32, 0), BAD);
        x.lamps(10);
        due.is("10 lamps: the last", x.through(0, 1, 1022), STATE);
        due.is("10 lamps: none such", x.through(0, 1, 1023), BAD);
        due.is("10 lamps: whether", x.through(1023, 0, -1), 0);
        due.is("10 lamps: whether", x.through(1023, 1, -1), 1);
    }

    private static void isThrough(int lamps, int a, int b, String way) {
        OneLamp x = new OneLamp();
        x.lamps(lamps);
        due.is("through(" + a + ", " + b + ", -1)", x.through(a, b, -1), 1);
        for (int i = 0; i < way.length(); i++) {
            due.is("through(" + a + ", " + b + ", " + i + ")", x.through(a, b, i), way.charAt(i) - '0');
        }
        due.is("through, behind the last", x.through(a, b, way.length()), BAD);
    }

    private static void throughFinds() {
        due.of("promise 22");
        isThrough(1, 0, 1, "0");
        isThrough(1, 1, 0, "0");
        isThrough(2, 0, 1, "101");
        isThrough(2, 0, 2, "010");
        isThrough(2, 3, 1, "010");
        isThrough(3, 0, 4, "0102010");
        isThrough(3, 0, 1, "1020102");
        isThrough(3, 0, 2, "0121012");
        isThrough(3, 0, 7, "0102101");
        isThrough(4, 0, 8, "010201030102010");
        OneLamp x = new OneLamp();
        due.is("change(0)", x.change(0), 1);
        x.bar(1);
        x.bar(7);
        x.set(0, 9);
        x.set(1, 1);
        due.is("what is barred doesn't count", x.through(0, 4, -1), 1);
        due.is("rest, shy and what was had don't either", x.through(0, 4, 3), 2);
        due.is("through(0, 4, 6)", x.through(0, 4, 6), 0);
    }

    /** For every pair of few lamps: each picture once, and no way that is earlier by rows of lamps. */
    private static void throughIsAWay() {
        due.of("promise 22, all pairs");
        Model model = new Model();
        for (int n = 1; n <= 4; n++) {
            model.lamps(n);
            for (int a = 0; a < 1 << n; a++) {
                OneLamp x = new OneLamp();
                x.lamps(n);
                for (int b = 0; b < 1 << n; b++) {
                    boolean odd = Integer.bitCount(a ^ b) % 2 == 1;
                    due.is("through(" + a + ", " + b + ", -1)", x.through(a, b, -1), odd ? 1 : 0);
                    int at = a;
                    int seen = 1 << a;
                    for (int i = 0; i < (1 << n) - 1; i++) {
                        int lamp = x.through(a, b, i);
                        due.is("through(" + a + ", " + b + ", " + i + ")", lamp, model.through(a, b, i));
                        at ^= odd ? 1 << lamp : 0;
                        seen |= 1 << at;
                    }
                    due.is("pictures from " + a + " to " + b, Integer.bitCount(seen), odd ? 1 << n : 1);
                    due.is("the last from " + a + " to " + b, at, odd ? b : a);
                }
            }
        }
    }

    private static void image() {
        due.of("promises 23 and 24");
        OneLamp x = new OneLamp();
        due.is("back()", x.back(), STATE);
        x.lamps(4);
        x.cost(0, 3);
        Due.change(x, "010");
        x.bar(15);
        due.is("image()", x.image(), 3);
        x.bar(14);
        Due.change(x, "20");
        due.is("now(2)", x.now(2), 5);
        due.is("back()", x.back(), 3);
        int[] want = {4, 2, 3, 4, 7};
        for (int what = 0; what < 5; what++) {
            due.is("now(" + what + ")", x.now(what), want[what]);
        }
        due.is("lamp(0, 1)", x.lamp(0, 1), 2);
        due.is("lamp(0, 2)", x.lamp(0, 2), 3);
        due.is("lamp(1, 2)", x.lamp(1, 2), 2);
        due.is("lamp(2, 1)", x.lamp(2, 1), 0);
        due.is("lamp(2, 2)", x.lamp(2, 2), NOT);
        due.is("had", x.picture(3, 0), 1);
        due.is("not had", x.picture(6, 0), 0);
        due.is("told barred", x.picture(15, 1), 1);
        due.is("not told barred", x.picture(14, 1), 0);
        due.is("count(0)", x.count(0), 1);
        Due.change(x, "2");
        due.is("back() once more", x.back(), 3);
        due.is("may()", x.may(), 12);
        x.lamps(10);
        x.bar(1000);
        Due.change(x, "9");
        due.is("back() to fewer lamps", x.back(), 3);
        due.is("now(0)", x.now(0), 4);
        due.is("count(0)", x.count(0), 1);
        due.is("change(9)", x.change(9), BAD);
        x.begin(9);
        due.is("image() takes the place", x.image(), 0);
        x.lamps(2);
        due.is("back() to more lamps", x.back(), 0);
        due.is("now(1)", x.now(1), 9);
        due.is("now(3)", x.now(3), 1);
        due.is("picture(3, 0)", x.picture(3, 0), 0);
        x.image();
        x.change(1);
        due.is("the image is not the wall", x.back(), 0);
        due.is("now(1)", x.now(1), 9);
    }

    private static void imageKeepsNoMore() {
        due.of("promise 24, what stays");
        OneLamp x = new OneLamp();
        x.image();
        x.cost(1, 5);
        x.set(0, 2);
        x.set(1, 1);
        Due.law(x, "p=4");
        Due.feed(x, "p");
        Due.row(x, 1, 2, 77);
        x.body(6);
        x.act(0, 0, 1);
        due.is("back()", x.back(), 0);
        due.is("cost", x.lamp(1, 0), 5);
        due.is("rest", x.now(6), 2);
        due.is("shy", x.now(7), 1);
        due.is("the law", x.picture(4, 1), 1);
        due.is("the tape", x.count(1), 1);
        due.is("a row", x.element(1, 0), 77);
        due.is("bodies", x.count(3), 1);
        due.is("the trace", x.count(4), 2);
        due.is("what can be undone", x.undo(), 0);
        due.is("cost", x.lamp(1, 0), 1);
    }

    private static void undo() {
        due.of("promise 25");
        OneLamp x = new OneLamp();
        due.is("undo()", x.undo(), STATE);
        x.cost(0, 5);
        x.cost(0, 6);
        x.cost(9, 2);
        x.cost(9, 2);
        x.cost(3, 10);
        due.is("count(2)", x.count(2), 3);
        due.is("undo()", x.undo(), 2);
        due.is("cost(9)", x.cost(9, 1), 1);
        due.is("undo()", x.undo(), 1);
        due.is("lamp(0, 0)", x.lamp(0, 0), 5);
        due.is("undo()", x.undo(), 0);
        due.is("lamp(0, 0)", x.lamp(0, 0), 1);
        due.is("undo()", x.undo(), STATE);
        due.is("count(2)", x.count(2), 0);
        x.cost(1, 4);
        x.change(1);
        due.is("undo()", x.undo(), 0);
        due.is("spent stays", x.now(4), 4);
        x.cost(1, 4);
        x.lamps(2);
        x.begin(1);
        due.is("undo() behind lamps()", x.undo(), 0);
        due.is("lamp(1, 0)", x.lamp(1, 0), 1);
        due.is("now(2)", x.now(2), 0);
    }

    private static void redo() {
        due.of("promise 26");
        OneLamp x = new OneLamp();
        due.is("redo()", x.redo(), STATE);
        x.cost(0, 5);
        due.is("redo() with nothing undone", x.redo(), STATE);
        x.cost(1, 6);
        x.cost(0, 7);
        x.undo();
        x.undo();
        x.undo();
        due.is("redo()", x.redo(), 2);
        due.is("lamp(0, 0)", x.lamp(0, 0), 5);
        due.is("lamp(1, 0)", x.lamp(1, 0), 1);
        due.is("redo()", x.redo(), 1);
        due.is("lamp(1, 0)", x.lamp(1, 0), 6);
        due.is("count(2)", x.count(2), 2);
        due.is("the same number is no change", x.cost(1, 6), 6);
        due.is("nor is what is refused", x.cost(1, 10), BAD);
        due.is("redo()", x.redo(), 0);
        due.is("lamp(0, 0)", x.lamp(0, 0), 7);
        due.is("redo()", x.redo(), STATE);
        due.is("undo()", x.undo(), 2);
        due.is("undo()", x.undo(), 1);
        x.cost(2, 9);
        due.is("another came behind", x.redo(), STATE);
        due.is("count(2)", x.count(2), 2);
        due.is("undo()", x.undo(), 1);
        due.is("lamp(2, 0)", x.lamp(2, 0), 1);
        due.is("undo()", x.undo(), 0);
        due.is("lamp(0, 0)", x.lamp(0, 0), 1);
        due.is("redo()", x.redo(), 1);
        due.is("redo()", x.redo(), 0);
        due.is("lamp(2, 0)", x.lamp(2, 0), 9);
    }

    private static void fortyChanges() {
        due.of("forty changes");
        OneLamp x = new OneLamp();
        for (int k = 1; k <= 40; k++) {
            due.is("cost", x.cost(0, k % 2 == 1 ? 2 : 3), k == 1 ? 1 : k % 2 == 1 ? 3 : 2);
            due.is("count(2)", x.count(2), k);
        }
        x.cost(4, 8);
        due.is("the 41st", x.count(2), 40);
        x.cost(5, 7);
        due.is("the 42nd", x.count(2), 40);
        due.is("undo()", x.undo(), 39);
        due.is("cost(5)", x.cost(5, 1), 1);
        due.is("undo()", x.undo(), 38);
        due.is("cost(4)", x.cost(4, 1), 1);
        for (int k = 37; k >= 0; k--) {
            due.is("undo()", x.undo(), k);
            due.is("lamp(0, 0)", x.lamp(0, 0), k % 2 == 0 ? 3 : 2);
        }
        due.is("the two oldest are gone", x.undo(), STATE);
        due.is("lamp(0, 0)", x.lamp(0, 0), 3);
        for (int k = 39; k >= 0; k--) {
            due.is("redo()", x.redo(), k);
        }
        due.is("redo()", x.redo(), STATE);
        due.is("cost(5)", x.cost(5, 7), 7);
        due.is("cost(4)", x.cost(4, 8), 8);
        due.is("lamp(0, 0)", x.lamp(0, 0), 3);
        due.is("count(2)", x.count(2), 40);
        x.undo();
        x.cost(6, 0);
        due.is("the 40th again", x.count(2), 40);
        due.is("redo()", x.redo(), STATE);
    }
}
