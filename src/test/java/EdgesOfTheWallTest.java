/** The document's Terms 1, but for the law's text: a test of its own for each sentence that names a limit. */
public final class EdgesOfTheWallTest {
    private static final int BAD = Due.BAD, NOT = Due.NOT;
    private static final Due due = new Due("EdgesOfTheWallTest");

    public static void main(String[] args) {
        oneToTenLamps();
        lampsFrom0();
        picturesAreBits();
        atFirst();
        hadIsThisOneToo();
        costOfTenLamps();
        rest();
        shy();
        toldBarred();
        barredByTheLaw();
        mayNotWhatWasHad();
        mayNotWhatIsBarred();
        restFromNoneToNine();
        restOfLampsNeverChanged();
        restOfOne();
        shyOfOthersHad();
        shyNotOfTheOneItIsAt();
        shyInJustOneLamp();
        shyOfWhatWasHadAlone();
        due.end();
    }

    private static void oneToTenLamps() {
        due.sentence("THE WALL has n LAMPS (1 .. 10; 3 at first)");
        OneLamp x = new OneLamp();
        due.is("now(0)", x.now(0), 3);
        due.is("lamps(0)", x.lamps(0), BAD);
        due.is("lamps(11)", x.lamps(11), BAD);
        due.is("lamps(-1)", x.lamps(-1), BAD);
        due.is("now(0)", x.now(0), 3);
        due.is("lamps(1)", x.lamps(1), 3);
        due.is("now(0)", x.now(0), 1);
        due.is("lamps(10)", x.lamps(10), 1);
        due.is("now(0)", x.now(0), 10);
    }

    private static void lampsFrom0() {
        due.sentence("0 .. n less 1;");
        for (int n = 1; n <= 10; n++) {
            OneLamp x = Due.wall(n, "");
            due.is("change(-1) of " + n, x.change(-1), BAD);
            due.is("change(" + n + ") of " + n, x.change(n), BAD);
            for (int what = 0; what < 3; what++) {
                due.is("lamp(-1, " + what + ") of " + n, x.lamp(-1, what), BAD);
                due.is("lamp(" + n + ", " + what + ") of " + n, x.lamp(n, what), BAD);
            }
            due.is("lamp(" + (n - 1) + ", 0) of " + n, x.lamp(n - 1, 0), 1);
            due.is("change(" + (n - 1) + ") of " + n, x.change(n - 1), 1 << n - 1);
            due.is("change(0) of " + n, x.change(0), n == 1 ? NOT : (1 << n - 1) + 1);
        }
    }

    private static void picturesAreBits() {
        due.sentence("a PICTURE is the bits of those that are lit");
        for (int n = 1; n <= 10; n++) {
            int last = (1 << n) - 1;
            for (int p : new int[] {-1, last + 1, last + 2, Due.LOW, Due.HIGH}) {
                OneLamp x = Due.wall(n, "");
                due.is("begin(" + p + ") of " + n, x.begin(p), BAD);
                due.is("bar(" + p + ") of " + n, x.bar(p), BAD);
                due.is("picture(" + p + ", 0) of " + n, x.picture(p, 0), BAD);
                due.is("picture(" + p + ", 1) of " + n, x.picture(p, 1), BAD);
                due.is("ways(" + p + ", 0) of " + n, x.ways(p, 0), BAD);
                due.is("through(" + p + ", 0, -1) of " + n, x.through(p, 0, -1), BAD);
                due.is("through(0, " + p + ", -1) of " + n, x.through(0, p, -1), BAD);
            }
            OneLamp x = Due.wall(n, "");
            due.is("bar(" + last + ") of " + n, x.bar(last), 1);
            due.is("picture(" + last + ", 1) of " + n, x.picture(last, 1), 1);
            due.is("ways(" + last + ", 0) of " + n, x.ways(last, 0), 0);
            due.is("through(" + last + ", 0, -1) of " + n, x.through(last, 0, -1), n % 2);
            due.is("through(0, " + last + ", -1) of " + n, x.through(0, last, -1), n % 2);
            due.is("begin(" + last + ") of " + n, x.begin(last), last);
            due.is("picture(" + last + ", 0) of " + n, x.picture(last, 0), 1);
        }
    }

    private static void atFirst() {
        due.sentence("It is at a PICTURE (0 at first), in a NIGHT (0 at first)");
        OneLamp x = new OneLamp();
        due.is("now(1)", x.now(1), 0);
        due.is("now(2)", x.now(2), 0);
        x.change(2);
        due.is("now(1)", x.now(1), 4);
        due.is("now(2)", x.now(2), 1);
    }

    private static void hadIsThisOneToo() {
        due.sentence("HAD: PICTURES it was at, this one, too.");
        OneLamp x = new OneLamp();
        due.is("at first: picture(0, 0)", x.picture(0, 0), 1);
        due.is("at first: now(3)", x.now(3), 1);
        x.begin(6);
        due.is("begun: picture(6, 0)", x.picture(6, 0), 1);
        due.is("begun: picture(0, 0)", x.picture(0, 0), 0);
        due.is("begun: now(3)", x.now(3), 1);
        x.change(0);
        due.is("changed: picture(7, 0)", x.picture(7, 0), 1);
        due.is("changed: picture(6, 0)", x.picture(6, 0), 1);
        due.is("changed: now(3)", x.now(3), 2);
        x.lamps(3);
        due.is("anew: picture(0, 0)", x.picture(0, 0), 1);
        due.is("anew: picture(7, 0)", x.picture(7, 0), 0);
        due.is("anew: now(3)", x.now(3), 1);
    }

    private static void costOfTenLamps() {
        due.sentence("COST of each of ten LAMPS (0 .. 9; 1 at first)");
        OneLamp x = Due.wall(1, "");
        for (int l = 0; l < 10; l++) {
            due.is("cost(" + l + ", -1)", x.cost(l, -1), BAD);
            due.is("cost(" + l + ", 10)", x.cost(l, 10), BAD);
            due.is("cost(" + l + ", 0)", x.cost(l, 0), 1);
            due.is("cost(" + l + ", 9)", x.cost(l, 9), 0);
        }
        due.is("cost(-1, 1)", x.cost(-1, 1), BAD);
        due.is("cost(10, 1)", x.cost(10, 1), BAD);
        x.lamps(10);
        for (int l = 0; l < 10; l++) {
            due.is("lamp(" + l + ", 0)", x.lamp(l, 0), 9);
        }
        x.change(9);
        due.is("now(4)", x.now(4), 9);
        x.cost(4, 0);
        x.change(4);
        due.is("now(4), a lamp that costs nothing", x.now(4), 9);
    }

    private static void rest() {
        due.sentence("REST (0 .. 9; 0 at first)");
        OneLamp x = new OneLamp();
        due.is("now(6)", x.now(6), 0);
        due.is("set(0, -1)", x.set(0, -1), BAD);
        due.is("set(0, 10)", x.set(0, 10), BAD);
        due.is("now(6)", x.now(6), 0);
        for (int rest = 1; rest <= 9; rest++) {
            due.is("set(0, " + rest + ")", x.set(0, rest), rest - 1);
        }
        due.is("now(6)", x.now(6), 9);
        due.is("set(0, 0)", x.set(0, 0), 9);
    }

    private static void shy() {
        due.sentence("SHY (0, 1; 0 at first)");
        OneLamp x = new OneLamp();
        due.is("now(7)", x.now(7), 0);
        due.is("set(1, -1)", x.set(1, -1), BAD);
        due.is("set(1, 2)", x.set(1, 2), BAD);
        due.is("set(1, 9)", x.set(1, 9), BAD);
        due.is("set(1, 1)", x.set(1, 1), 0);
        due.is("now(7)", x.now(7), 1);
        due.is("set(1, 0)", x.set(1, 0), 1);
    }

    private static void toldBarred() {
        due.sentence("BARRED: PICTURES told so, and those for which THE LAW gives not 0.");
        OneLamp x = new OneLamp();
        x.bar(3);
        due.is("told: picture(3, 1)", x.picture(3, 1), 1);
        due.is("not told: picture(2, 1)", x.picture(2, 1), 0);
        Due.law(x, "p=2");
        due.is("by law: picture(2, 1)", x.picture(2, 1), 1);
        due.is("told: picture(3, 1)", x.picture(3, 1), 1);
        due.is("neither: picture(1, 1)", x.picture(1, 1), 0);
        x.bar(2);
        Due.law(x, "0");
        due.is("both, then told alone: picture(2, 1)", x.picture(2, 1), 1);
    }

    private static void barredByTheLaw() {
        due.sentence("those for which THE LAW gives not 0");
        String[] texts = {"1", "2", "9999", "-1", "-9999", "0", "-0"};
        for (String text : texts) {
            OneLamp x = new OneLamp();
            Due.law(x, text);
            due.is("law " + text + ": picture(0, 1)", x.picture(0, 1), text.endsWith("0") ? 0 : 1);
            due.is("law " + text + ": may()", x.may(), text.endsWith("0") ? 7 : 0);
        }
        OneLamp x = new OneLamp();
        Due.law(x, "p-4");
        due.is("below 0: picture(3, 1)", x.picture(3, 1), 1);
        due.is("0: picture(4, 1)", x.picture(4, 1), 0);
        due.is("above 0: picture(5, 1)", x.picture(5, 1), 1);
    }

    private static void mayNotWhatWasHad() {
        due.sentence("if the PICTURE then was not HAD");
        OneLamp x = Due.wall(2, "01");
        due.is("may()", x.may(), 1);
        due.is("change(1)", x.change(1), NOT);
        due.is("change(0)", x.change(0), 2);
        due.is("may()", x.may(), 0);
        due.is("change(1), to the first of all", x.change(1), NOT);
        x.begin(2);
        due.is("begun anew: may()", x.may(), 3);
    }

    private static void mayNotWhatIsBarred() {
        due.sentence("is not BARRED");
        OneLamp x = new OneLamp();
        x.bar(1);
        Due.law(x, "p=2");
        due.is("may()", x.may(), 4);
        due.is("change(0), told", x.change(0), NOT);
        due.is("change(1), by law", x.change(1), NOT);
        x.begin(1);
        due.is("from a barred one: may()", x.may(), 7);
    }

    private static void restFromNoneToNine() {
        due.sentence("if the LAMP was not changed in the last REST NIGHTS");
        OneLamp x = Due.wall(10, "0123456789");
        int[] want = {511, 511, 255, 127, 63, 31, 15, 7, 3, 1};
        for (int rest = 0; rest <= 9; rest++) {
            x.set(0, rest);
            due.is("ten nights, rest " + rest + ": may()", x.may(), want[rest]);
        }
        due.is("change(1), nine nights ago", x.change(1), NOT);
        due.is("change(0), ten nights ago", x.change(0), 1022);
        due.is("change(1), ten nights ago", x.change(1), 1020);
        due.is("change(0), two nights ago", x.change(0), NOT);
    }

    private static void restOfLampsNeverChanged() {
        due.sentence("if the LAMP was not changed in the last REST NIGHTS");
        OneLamp x = Due.wall(10, "");
        x.set(0, 9);
        due.is("night 0: may()", x.may(), 1023);
        Due.change(x, "012");
        due.is("night 3: may()", x.may(), 1023 - 7);
        x.begin(7);
        due.is("begun anew: may()", x.may(), 1023);
        x.change(3);
        x.lamps(10);
        due.is("all anew: may()", x.may(), 1023);
    }

    private static void restOfOne() {
        due.sentence("REST 1: not in two NIGHTS one behind the other.");
        OneLamp x = Due.wall(4, "0");
        x.set(0, 1);
        due.is("may() behind it", x.may(), 14);
        due.is("change(0) behind it", x.change(0), NOT);
        x.change(1);
        due.is("may(), a night later", x.may(), 13);
        due.is("change(0), a night later", x.change(0), 2);
        x.set(0, 2);
        due.is("rest 2: may()", x.may(), 12);
    }

    private static void shyOfOthersHad() {
        due.sentence("if SHY is 1, if no other PICTURE that was HAD");
        OneLamp x = Due.wall(4, "01");
        due.is("SHY 0: may()", x.may(), 13);
        x.set(1, 1);
        due.is("2 is beside 0, the first of all: may()", x.may(), 12);
        due.is("change(0)", x.change(0), NOT);
        due.is("change(3)", x.change(3), 11);
        due.is("9 is beside 1, 10 beside none: may()", x.may(), 5);
        x.set(1, 0);
        due.is("SHY 0: may()", x.may(), 7);
    }

    private static void shyNotOfTheOneItIsAt() {
        due.sentence("but the one it is at");
        for (int n = 1; n <= 10; n++) {
            OneLamp x = Due.wall(n, "");
            x.set(1, 1);
            due.is("of " + n + ": may()", x.may(), (1 << n) - 1);
            x.begin((1 << n) - 1);
            due.is("of " + n + ", all lit: may()", x.may(), (1 << n) - 1);
        }
    }

    private static void shyInJustOneLamp() {
        due.sentence("is unlike the new one in just one LAMP");
        OneLamp x = Due.wall(10, "9");
        x.set(1, 1);
        due.is("those are two lamps from 0: may()", x.may(), 511);
        x.change(0);
        due.is("1 is beside 0, 512 was had: may()", x.may(), 1023 - 512 - 1);
        x.change(1);
        due.is("514 is beside 512, 513 was had, 3 is two from 0: may()", x.may(), 1023 - 1 - 2);
        x.change(2);
        due.is("517 is beside 513, 515 was had, 518 is two from 512: may()", x.may(), 1023 - 2 - 4);
    }

    private static void shyOfWhatWasHadAlone() {
        due.sentence("no other PICTURE that was HAD");
        OneLamp x = Due.wall(3, "0");
        x.set(1, 1);
        x.bar(4);
        Due.law(x, "p=7");
        due.is("5 is beside barred 4 and 7: may()", x.may(), 6);
        x.begin(0);
        due.is("begun anew, 1 is not had: may()", x.may(), 3);
        OneLamp y = Due.wall(3, "");
        y.set(1, 1);
        y.image();
        Due.change(y, "01");
        due.is("may()", y.may(), 4);
        y.back();
        Due.change(y, "1");
        due.is("back, 1 and 3 are not had: may()", y.may(), 5);
    }
}
