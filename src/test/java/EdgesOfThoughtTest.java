import java.math.BigInteger;
import java.util.Arrays;

/** The document's Terms 2 and 3: a test of its own for each sentence that names a limit. */
public final class EdgesOfThoughtTest {
    private static final int BAD = Due.BAD, NOT = Due.NOT, STATE = Due.STATE;
    private static final long END = 1L << 62;
    private static final Due due = new Due("EdgesOfThoughtTest");

    public static void main(String[] args) {
        fourLampsInThought();
        longestOfNone();
        longestIsTheFirst();
        longestUnderAllRules();
        wishedFromNow();
        whoCanNotHasLost();
        firstLampThatWins();
        rulesHoldInTheGame();
        waysOfNoNight();
        waysOfFiveNights();
        rulesHoldInWays();
        judgedFromItsBeginning();
        judgedNoneOfTheWalls();
        judgedBarred();
        judgedMayNot();
        judgedNotJustOne();
        judgedByNoElements();
        darkInNight0();
        nightsAndPicturesOfTheMirror();
        lampOfANight();
        lampsOfSeveralStates();
        thereAndBack();
        severalInFarNights();
        throughIfOdd();
        throughNights();
        throughFourLamps();
        throughAndBarred();
        oftenInDeed();
        spentAsItWas();
        least();
        imageKeeps();
        imageKeepsNotTheRest();
        undoneTheLatestFirst();
        doneAgain();
        fortyAreKept();
        sameNumberIsNoChange();
        due.end();
    }

    private static OneLamp ruled(int lamps, int rest, int shy, String law) {
        OneLamp x = Due.wall(lamps, "");
        x.set(0, rest);
        x.set(1, shy);
        Due.law(x, law);
        return x;
    }

    private static void isLongest(OneLamp x, String way) {
        due.is("longest(-1)", x.longest(-1), way.length());
        for (int i = 0; i < way.length(); i++) {
            due.is("longest(" + i + ") of " + way, x.longest(i), way.charAt(i) - '0');
        }
        due.is("longest(" + way.length() + ")", x.longest(way.length()), BAD);
    }

    private static void wins(OneLamp x, int lamp) {
        due.is("game(0)", x.game(0), lamp == NOT ? 0 : 1);
        due.is("game(1)", x.game(1), lamp);
    }

    private static void judged(OneLamp x, int want, long... row) {
        Due.row(x, 0, 1, row);
        due.is("judge by " + Arrays.toString(row), x.judge(0), want);
    }

    private static void fourLampsInThought() {
        due.sentence("In thought from now (4 LAMPS at most: else STATE)");
        for (int n = 1; n <= 10; n++) {
            OneLamp x = Due.wall(n, "");
            boolean few = n <= 4;
            due.is(n + " lamps: longest(-1)", x.longest(-1), few ? (1 << n) - 1 : STATE);
            due.is(n + " lamps: longest(0)", x.longest(0), few ? 0 : STATE);
            due.is(n + " lamps: longest(2000)", x.longest(2000), few ? BAD : STATE);
            due.is(n + " lamps: longest(-2)", x.longest(-2), BAD);
            due.is(n + " lamps: wished(0)", x.wished(0), few ? 1 : STATE);
            due.is(n + " lamps: wished(15)", x.wished(15) != STATE ? 1 : 0, few ? 1 : 0);
            due.is(n + " lamps: wished(16)", x.wished(16), BAD);
            due.is(n + " lamps: wished(-1)", x.wished(-1), BAD);
            due.is(n + " lamps: game(0)", x.game(0), few ? 1 : STATE);
            due.is(n + " lamps: game(1)", x.game(1), few ? 0 : STATE);
            due.is(n + " lamps: game(2)", x.game(2), BAD);
            due.is(n + " lamps: game(-1)", x.game(-1), BAD);
            due.is(n + " lamps: ways(1, 1)", x.ways(1, 1), 1);
        }
    }

    private static void longestOfNone() {
        due.sentence("LONGEST of none: 0.");
        isLongest(Due.wall(1, "0"), "");
        isLongest(Due.wall(2, "010"), "");
        isLongest(ruled(4, 0, 0, "1"), "");
        OneLamp x = Due.wall(1, "");
        x.bar(1);
        isLongest(x, "");
    }

    private static void longestIsTheFirst() {
        due.sentence("LONGEST: the most NIGHTS that can follow one another; the first such way by rows of LAMPS.");
        isLongest(Due.wall(1, ""), "0");
        isLongest(Due.wall(2, ""), "010");
        isLongest(Due.wall(2, "0"), "10");
        isLongest(Due.wall(3, ""), "0102010");
        isLongest(Due.wall(4, ""), "010201030102010");
        OneLamp x = Due.wall(2, "");
        x.bar(3);
        isLongest(x, "0");
        x.bar(1);
        isLongest(x, "1");
        x = Due.wall(3, "");
        x.bar(3);
        x.bar(7);
        isLongest(x, "02012");
    }

    private static void longestUnderAllRules() {
        due.sentence("the most NIGHTS that can follow one another");
        isLongest(ruled(2, 2, 0, "0"), "01");
        isLongest(ruled(3, 2, 0, "0"), "01201");
        isLongest(ruled(3, 3, 0, "0"), "012");
        isLongest(ruled(2, 0, 1, "0"), "01");
        isLongest(ruled(3, 0, 1, "0"), "0120");
        isLongest(ruled(2, 0, 0, "p=1"), "10");
        OneLamp x = ruled(3, 9, 0, "0");
        Due.change(x, "1");
        isLongest(x, "02");
        x = ruled(3, 0, 1, "0");
        Due.change(x, "0");
        isLongest(x, "120");
    }

    private static void wishedFromNow() {
        due.sentence("WISHED: PICTURES (bits) at which it can be in the t-th NIGHT from now (0: now).");
        OneLamp x = Due.wall(2, "");
        int[] ofTwo = {1, 6, 8, 6};
        for (int t = 0; t <= 15; t++) {
            due.is("wished(" + t + ")", x.wished(t), t < ofTwo.length ? ofTwo[t] : 0);
        }
        due.is("wished(-1)", x.wished(-1), BAD);
        due.is("wished(16)", x.wished(16), BAD);
        x.change(1);
        int[] fromThere = {4, 8, 2, 0};
        for (int t = 0; t < fromThere.length; t++) {
            due.is("a night later, wished(" + t + ")", x.wished(t), fromThere[t]);
        }
        x = Due.wall(4, "");
        int oddlyLit = 2 + 4 + 16 + 128 + 256 + (1 << 11) + (1 << 13) + (1 << 14);
        due.is("4 lamps: wished(15)", x.wished(15), oddlyLit);
        due.is("4 lamps: wished(14)", x.wished(14), 0xFFFF - oddlyLit - 1);
        x.change(0);
        due.is("a night later, wished(15)", x.wished(15), 0);
        x = ruled(2, 2, 0, "0");
        due.is("rest 2: wished(2)", x.wished(2), 8);
        due.is("rest 2: wished(3)", x.wished(3), 0);
        x = ruled(2, 0, 1, "0");
        due.is("shy: wished(2)", x.wished(2), 8);
        due.is("shy: wished(3)", x.wished(3), 0);
        x = ruled(2, 0, 0, "p=1|p=0");
        due.is("at a barred one: wished(0)", x.wished(0), 1);
        due.is("by law: wished(1)", x.wished(1), 4);
        x.bar(2);
        due.is("told: wished(1)", x.wished(1), 0);
    }

    private static void whoCanNotHasLost() {
        due.sentence("who can't has lost");
        wins(Due.wall(1, "0"), NOT);
        wins(Due.wall(1, ""), 0);
        wins(Due.wall(2, "010"), NOT);
        wins(Due.wall(2, "01"), 0);
        wins(Due.wall(2, "0"), NOT);
        wins(Due.wall(2, ""), 0);
        wins(ruled(4, 0, 0, "1"), NOT);
    }

    private static void firstLampThatWins() {
        due.sentence("the first LAMP by which (NOT: none).");
        wins(ruled(3, 0, 0, "p>4|p=2"), 2);
        wins(ruled(3, 0, 0, "p>4|p=3"), 0);
        wins(ruled(3, 0, 0, "p>4|p=1|p=3"), 1);
        wins(ruled(3, 0, 0, "p=1|p=2|p=7"), NOT);
        wins(ruled(3, 0, 0, "p=1|p=2|p>4"), 2);
        OneLamp x = Due.wall(2, "");
        due.is("game(-1)", x.game(-1), BAD);
        due.is("game(2)", x.game(2), BAD);
    }

    private static void rulesHoldInTheGame() {
        due.sentence("GAME: REST, SHY, HAD hold in it.");
        wins(Due.wall(2, ""), 0);
        wins(ruled(2, 2, 0, "0"), NOT);
        wins(ruled(2, 0, 1, "0"), NOT);
        wins(ruled(3, 2, 0, "0"), 0);
        wins(ruled(3, 3, 0, "0"), 0);
        wins(ruled(4, 9, 0, "0"), NOT);
        wins(ruled(3, 0, 1, "0"), NOT);
        OneLamp x = ruled(2, 2, 0, "0");
        x.change(1);
        wins(x, 0);
        x = Due.wall(2, "0");
        wins(x, NOT);
        x.begin(1);
        wins(x, 0);
    }

    private static void waysOfNoNight() {
        due.sentence("WAYS with m 0: 1 for the PICTURE it is at.");
        OneLamp x = Due.wall(3, "01");
        for (int p = 0; p < 8; p++) {
            due.is("ways(" + p + ", 0)", x.ways(p, 0), p == 3 ? 1 : 0);
        }
        x.bar(3);
        due.is("barred: ways(3, 0)", x.ways(3, 0), 1);
        x = Due.wall(10, "9");
        due.is("ways(512, 0)", x.ways(512, 0), 1);
        due.is("ways(0, 0)", x.ways(0, 0), 0);
    }

    private static void waysOfFiveNights() {
        due.sentence("WAYS: how many ways of m NIGHTS (0 .. 5) from now end at a PICTURE (any LAMPS).");
        OneLamp x = Due.wall(10, "");
        due.is("ways(31, -1)", x.ways(31, -1), BAD);
        due.is("ways(31, 6)", x.ways(31, 6), BAD);
        due.is("ways(31, 5)", x.ways(31, 5), 120);
        due.is("ways(31, 4)", x.ways(31, 4), 0);
        due.is("ways(63, 5)", x.ways(63, 5), 0);
        due.is("ways(992, 5)", x.ways(992, 5), 120);
        due.is("ways(0, 4), had", x.ways(0, 4), 0);
        x = Due.wall(1, "");
        due.is("1 lamp: ways(1, 1)", x.ways(1, 1), 1);
        due.is("1 lamp: ways(1, 3)", x.ways(1, 3), 0);
        due.is("1 lamp: ways(0, 2)", x.ways(0, 2), 0);
        x = Due.wall(2, "");
        due.is("2 lamps: ways(2, 3)", x.ways(2, 3), 1);
        due.is("2 lamps: ways(0, 4)", x.ways(0, 4), 0);
    }

    private static void rulesHoldInWays() {
        due.sentence("WAYS: how many ways of m NIGHTS (0 .. 5) from now");
        OneLamp x = Due.wall(3, "");
        due.is("ways(1, 3)", x.ways(1, 3), 2);
        x.set(0, 2);
        due.is("rest 2: ways(1, 3)", x.ways(1, 3), 0);
        due.is("rest 2: ways(7, 3)", x.ways(7, 3), 6);
        x.set(0, 0);
        x.set(1, 1);
        due.is("shy: ways(1, 3)", x.ways(1, 3), 0);
        due.is("shy: ways(3, 2)", x.ways(3, 2), 2);
        x.set(1, 0);
        x.bar(1);
        due.is("told: ways(3, 2)", x.ways(3, 2), 1);
        Due.law(x, "p=2");
        due.is("by law: ways(3, 2)", x.ways(3, 2), 0);
        due.is("by law: ways(2, 1)", x.ways(2, 1), 0);
    }

    private static void judgedFromItsBeginning() {
        due.sentence("JUDGED: nothing else is HAD and no LAMP was changed at its beginning.");
        OneLamp x = Due.wall(3, "012");
        x.set(0, 2);
        x.set(1, 1);
        judged(x, NOT, 7, 3, 1, 0);
        judged(x, NOT, 0, 1, 3, 7);
        judged(x, NOT, 0, 4, 6, 7, 3);
        judged(x, NOT, 3, 7);
        judged(x, NOT, 5);
    }

    private static void judgedNoneOfTheWalls() {
        due.sentence("the first place at which it is none of the WALL's");
        OneLamp x = Due.wall(3, "");
        judged(x, 0, 8);
        judged(x, 0, -1);
        judged(x, 1, 0, 8);
        judged(x, 1, 0, -32768);
        judged(x, 2, 0, 4, 12, 99);
        x.lamps(4);
        judged(x, NOT, 0, 8);
        judged(x, NOT, 0, 4, 12);
        x.lamps(10);
        judged(x, NOT, 1023);
        judged(x, 0, 1024);
        x.lamps(1);
        judged(x, NOT, 0, 1);
        judged(x, 0, 2);
    }

    private static void judgedBarred() {
        due.sentence("or BARRED (the first, too)");
        OneLamp x = Due.wall(3, "");
        x.bar(1);
        Due.law(x, "p=2");
        judged(x, 0, 1);
        judged(x, 0, 2, 3);
        judged(x, 1, 0, 1);
        judged(x, 1, 0, 2, 3);
        judged(x, 3, 0, 4, 5, 1);
    }

    private static void judgedMayNot() {
        due.sentence("or the LAMP that is unlike MAY not be changed");
        OneLamp x = Due.wall(3, "");
        judged(x, 2, 0, 1, 0);
        judged(x, 4, 0, 1, 3, 2, 0);
        x.set(0, 2);
        judged(x, 3, 0, 1, 3, 2);
        judged(x, NOT, 0, 1, 3, 7, 6);
        x.set(0, 3);
        judged(x, 4, 0, 1, 3, 7, 6);
        x.set(0, 0);
        x.set(1, 1);
        judged(x, 3, 0, 1, 3, 2);
        judged(x, 5, 0, 1, 3, 7, 6, 4);
    }

    private static void judgedNotJustOne() {
        due.sentence("(also: not just one is)");
        OneLamp x = Due.wall(4, "");
        judged(x, 1, 0, 0);
        judged(x, 1, 5, 5, 4);
        judged(x, 1, 0, 3);
        judged(x, 1, 0, 15);
        judged(x, 2, 0, 1, 2);
        judged(x, 2, 0, 8, 8);
    }

    private static void judgedByNoElements() {
        due.sentence("NOT (also by a ROW without elements).");
        OneLamp x = Due.wall(3, "");
        judged(x, NOT);
        judged(x, NOT, 0);
        x.bar(0);
        judged(x, NOT);
        judged(x, 0, 0);
    }

    private static void darkInNight0() {
        due.sentence("in NIGHT 0 all are dark");
        OneLamp x = Due.wall(1, "");
        due.is("mirror(0, 0)", x.mirror(0, 0), 0);
        due.is("mirror(0, 1)", x.mirror(0, 1), 0);
        for (int s = 2; s <= 9; s++) {
            for (int lamp = 0; lamp <= 30; lamp++) {
                due.is(s + " states, lamp " + lamp + ", night 0", x.several(100 * s + lamp, 0), 0);
            }
        }
    }

    private static void nightsAndPicturesOfTheMirror() {
        due.sentence("NIGHTS and PICTURES 0 .. 2^62 less 1.");
        OneLamp x = Due.wall(1, "");
        for (int what = 0; what <= 2; what++) {
            due.is("mirror(-1, " + what + ")", x.mirror(-1, what), BAD);
            due.is("mirror(2^62, " + what + ")", x.mirror(END, what), BAD);
            due.is("mirror(LOW, " + what + ")", x.mirror(Long.MIN_VALUE, what), BAD);
            due.is("mirror(HIGH, " + what + ")", x.mirror(Long.MAX_VALUE, what), BAD);
        }
        due.is("mirror(2^62 less 1, 0)", x.mirror(END - 1, 0), END / 2);
        due.is("mirror(2^61, 1)", x.mirror(END / 2, 1), END - 1);
        due.is("mirror(2^62 less 1, 1)", x.mirror(END - 1, 1), (END - 1) / 3 * 2);
        due.is("mirror(2^62 less 1, 2)", x.mirror(END - 1, 2), 0);
        due.is("mirror(1, -1)", x.mirror(1, -1), BAD);
        due.is("mirror(1, 3)", x.mirror(1, 3), BAD);
    }

    private static void lampOfANight() {
        due.sentence("LAMP of NIGHT t (1 on): the one that is changed in it.");
        OneLamp x = Due.wall(1, "");
        due.is("mirror(0, 2)", x.mirror(0, 2), NOT);
        due.is("mirror(1, 2)", x.mirror(1, 2), 0);
        due.is("mirror(2, 2)", x.mirror(2, 2), 1);
        due.is("mirror(3, 2)", x.mirror(3, 2), 0);
        due.is("mirror(4, 2)", x.mirror(4, 2), 2);
        due.is("mirror(2^61, 2)", x.mirror(END / 2, 2), 61);
        due.is("mirror(2^61 + 2^60, 2)", x.mirror(END / 2 + END / 4, 2), 60);
        due.is("mirror(2^62 less 2, 2)", x.mirror(END - 2, 2), 1);
    }

    private static void lampsOfSeveralStates() {
        due.sentence("SEVERAL: LAMPS of s states (2 .. 9)");
        OneLamp x = Due.wall(1, "");
        for (int si : new int[] {-200, -1, 0, 30, 100, 130, 199, 231, 299, 931, 999, 1000, 1030, Due.LOW, Due.HIGH}) {
            due.is("several(" + si + ", 1)", x.several(si, 1), BAD);
        }
        for (int s = 2; s <= 9; s++) {
            due.is(s + " states, lamp 0", x.several(100 * s, 1), 1);
            due.is(s + " states, lamp 30", x.several(100 * s + 30, 1), 0);
            due.is(s + " states, lamp 31", x.several(100 * s + 31, 1), BAD);
            due.is(s + " states, night -1", x.several(100 * s, -1), BAD);
            due.is(s + " states, night 2^62", x.several(100 * s, END), BAD);
        }
    }

    private static void thereAndBack() {
        due.sentence("r = q % (2 s): r, if it is below s, else 2 s less 1 less r.");
        OneLamp x = Due.wall(1, "");
        for (int s = 2; s <= 9; s++) {
            due.is(s + " states, night s less 1", x.several(100 * s, s - 1), s - 1);
            due.is(s + " states, night s", x.several(100 * s, s), s - 1);
            due.is(s + " states, night s and 1", x.several(100 * s, s + 1), s - 2);
            due.is(s + " states, night 2 s less 1", x.several(100 * s, 2 * s - 1), 0);
            due.is(s + " states, night 2 s", x.several(100 * s, 2 * s), 0);
            due.is(s + " states, night 2 s and 1", x.several(100 * s, 2 * s + 1), 1);
            due.is(s + " states, lamp 1, night s less 1", x.several(100 * s + 1, s - 1), 0);
            due.is(s + " states, lamp 1, night s", x.several(100 * s + 1, s), 1);
            due.is(s + " states, lamp 1, night s s", x.several(100 * s + 1, s * s), s - 1);
            due.is(s + " states, lamp 2, night s s less 1", x.several(100 * s + 2, s * s - 1), 0);
            due.is(s + " states, lamp 2, night s s", x.several(100 * s + 2, s * s), 1);
        }
    }

    private static void severalInFarNights() {
        due.sentence("with q = t by s to the i (cut)");
        OneLamp x = Due.wall(1, "");
        long last = END - 1;
        int[][] far = {{200, 0}, {230, 0}, {300, 0}, {330, 0}, {900, 0}, {930, 0}};
        for (int[] call : far) {
            int s = call[0] / 100;
            BigInteger q = BigInteger.valueOf(last)
                .divide(BigInteger.valueOf(s).pow(call[0] % 100));
            int r = q.mod(BigInteger.valueOf(2 * s)).intValue();
            due.is("several(" + call[0] + ", 2^62 less 1)", x.several(call[0], last), r < s ? r : 2 * s - 1 - r);
        }
        due.is("9 to the 19 fits", x.several(919, 1350851717672992089L), 1);
        due.is("9 to the 19 less 1", x.several(919, 1350851717672992088L), 0);
        due.is("9 to the 20 does not fit", x.several(920, last), 0);
        due.is("2 to the 30", x.several(230, 1L << 30), 1);
        due.is("2 to the 30 less 1", x.several(230, (1L << 30) - 1), 0);
        due.is("2 to the 32", x.several(230, 1L << 32), 0);
        due.is("2 to the 32 and 2 to the 30", x.several(230, 5L << 30), 1);
    }

    private static void throughIfOdd() {
        due.sentence("whether there is a way: if an odd number of LAMPS is unlike.");
        for (int n = 1; n <= 10; n++) {
            OneLamp x = Due.wall(n, "");
            int all = (1 << n) - 1;
            due.is(n + " lamps: to itself", x.through(0, 0, -1), 0);
            due.is(n + " lamps: all lit to itself", x.through(all, all, -1), 0);
            due.is(n + " lamps: one lamp", x.through(0, 1 << n - 1, -1), 1);
            due.is(n + " lamps: one lamp, back", x.through(all, all - 1, -1), 1);
            due.is(n + " lamps: all lamps", x.through(0, all, -1), n % 2);
            due.is(n + " lamps: all but one", x.through(1, all, -1), (n + 1) % 2);
        }
    }

    private static void throughNights() {
        due.sentence("the LAMP of the i-th NIGHT (from 0). BAD (none such)");
        for (int n = 1; n <= 10; n++) {
            OneLamp x = Due.wall(n, "");
            int nights = (1 << n) - 1;
            due.is(n + " lamps: i -2", x.through(0, 1, -2), BAD);
            due.is(n + " lamps: i LOW", x.through(0, 1, Due.LOW), BAD);
            due.is(n + " lamps: i of the last", x.through(0, 1, nights - 1) != BAD ? 1 : 0, 1);
            due.is(n + " lamps: i behind the last", x.through(0, 1, nights), BAD);
            due.is(n + " lamps: i HIGH", x.through(0, 1, Due.HIGH), BAD);
            due.is(n + " lamps: none, i behind the last", x.through(0, 0, nights), BAD);
            due.is(n + " lamps: none, i -2", x.through(0, 0, -2), BAD);
        }
    }

    private static void throughFourLamps() {
        due.sentence("The first such way by rows of LAMPS (4 LAMPS at most).");
        for (int n = 1; n <= 10; n++) {
            OneLamp x = Due.wall(n, "");
            int first = n == 1 ? 0 : 1;
            due.is(n + " lamps: the first", x.through(0, 1, 0), n <= 4 ? first : STATE);
            due.is(n + " lamps: none", x.through(0, 0, 0), n <= 4 ? NOT : STATE);
        }
        OneLamp x = Due.wall(3, "");
        int[] way = {1, 0, 2, 0, 1, 0, 2};
        for (int i = 0; i < way.length; i++) {
            due.is("through(0, 1, " + i + ")", x.through(0, 1, i), way[i]);
        }
    }

    private static void throughAndBarred() {
        due.sentence("THROUGH: what is BARRED doesn't count.");
        OneLamp x = Due.wall(2, "");
        x.change(0);
        x.bar(3);
        x.bar(0);
        Due.law(x, "1");
        x.set(0, 9);
        x.set(1, 1);
        due.is("through(0, 2, -1)", x.through(0, 2, -1), 1);
        int[] way = {0, 1, 0};
        for (int i = 0; i < way.length; i++) {
            due.is("through(0, 2, " + i + ")", x.through(0, 2, i), way[i]);
        }
        due.is("through(0, 3, 0)", x.through(0, 3, 0), NOT);
    }

    private static void oftenInDeed() {
        due.sentence("OFTEN: how often a LAMP was changed in deed.");
        OneLamp x = Due.wall(3, "010");
        x.longest(-1);
        x.wished(3);
        x.game(1);
        x.ways(6, 1);
        x.through(0, 1, 0);
        judged(x, NOT, 0, 2, 3, 1);
        due.is("change(0), that was had", x.change(0), 2 - 4);
        due.is("change(3)", x.change(3), BAD);
        int[] often = {2, 1, 0};
        for (int l = 0; l < 3; l++) {
            due.is("lamp(" + l + ", 1)", x.lamp(l, 1), often[l]);
        }
    }

    private static void spentAsItWas() {
        due.sentence("SPENT is by COST as it was.");
        OneLamp x = Due.wall(3, "");
        x.cost(0, 0);
        x.cost(1, 9);
        x.change(0);
        due.is("0: now(4)", x.now(4), 0);
        x.change(1);
        due.is("9: now(4)", x.now(4), 9);
        x.cost(1, 2);
        due.is("told anew: now(4)", x.now(4), 9);
        x.change(0);
        x.undo();
        due.is("undone: now(4)", x.now(4), 9);
        x.redo();
        due.is("done again: now(4)", x.now(4), 9);
        x.change(2);
        x.change(1);
        due.is("1 and 2: now(4)", x.now(4), 12);
    }

    private static void least() {
        due.sentence("LEAST: the least COST is the one that is paid most often.");
        for (int n = 1; n <= 10; n++) {
            OneLamp x = Due.wall(n, "");
            int nights = (1 << n) - 1;
            due.is(n + " lamps of 1: now(5)", x.now(5), nights);
            x.cost(n - 1, 0);
            due.is(n + " lamps, the last of 0: now(5)", x.now(5), (1 << n - 1) - 1);
            x.cost(n - 1, 9);
            due.is(n + " lamps, the last of 9: now(5)", x.now(5), nights + 8);
            for (int l = 0; l < 10; l++) {
                x.cost(l, 0);
            }
            due.is(n + " lamps of 0: now(5)", x.now(5), 0);
            for (int l = 0; l < 10; l++) {
                x.cost(l, 9);
            }
            due.is(n + " lamps of 9: now(5)", x.now(5), 9 * nights);
            x.cost(0, 2);
            due.is(n + " lamps, the first of 2: now(5)", x.now(5), 9 * nights - 7 * (1 << n - 1));
        }
        OneLamp x = Due.wall(3, "");
        x.cost(3, 0);
        due.is("none of the wall's: now(5)", x.now(5), 7);
        x.cost(0, 5);
        x.cost(1, 2);
        x.cost(2, 3);
        due.is("5 2 3: now(5)", x.now(5), 4 * 2 + 2 * 3 + 5);
    }

    private static void imageKeeps() {
        due.sentence("AN IMAGE keeps LAMPS, PICTURE, NIGHT, HAD, when each LAMP was changed, OFTEN, SPENT, told BARRED ones.");
        OneLamp x = Due.wall(4, "");
        x.cost(3, 6);
        Due.change(x, "31");
        x.bar(2);
        due.is("image()", x.image(), 2);
        x.bar(4);
        Due.change(x, "310");
        x.lamps(2);
        x.change(1);
        due.is("back()", x.back(), 2);
        int[] now = {4, 10, 2, 3, 7};
        for (int what = 0; what < now.length; what++) {
            due.is("now(" + what + ")", x.now(what), now[what]);
        }
        for (int p = 0; p < 16; p++) {
            due.is("picture(" + p + ", 0)", x.picture(p, 0), p == 0 || p == 8 || p == 10 ? 1 : 0);
            due.is("picture(" + p + ", 1)", x.picture(p, 1), p == 2 ? 1 : 0);
        }
        int[] last = {NOT, 2, NOT, 1};
        for (int l = 0; l < 4; l++) {
            due.is("lamp(" + l + ", 1)", x.lamp(l, 1), l % 2);
            due.is("lamp(" + l + ", 2)", x.lamp(l, 2), last[l]);
        }
        due.is("count(0)", x.count(0), 1);
        x.set(0, 1);
        due.is("lamp 1 rests: may()", x.may(), 5);
    }

    private static void imageKeepsNotTheRest() {
        due.sentence("All that it keeps is as in THE IMAGE: the NIGHT. STATE: there is none.");
        OneLamp x = Due.wall(3, "");
        due.is("back()", x.back(), STATE);
        due.is("image() in night 0", x.image(), 0);
        due.is("back() to night 0", x.back(), 0);
        x.set(0, 3);
        x.set(1, 1);
        x.cost(2, 8);
        Due.law(x, "p=6");
        x.change(1);
        due.is("back()", x.back(), 0);
        due.is("rest", x.now(6), 3);
        due.is("shy", x.now(7), 1);
        due.is("cost", x.lamp(2, 0), 8);
        due.is("law", x.picture(6, 1), 1);
        due.is("undo()", x.undo(), 0);
        x.change(2);
        due.is("back() again", x.back(), 0);
        due.is("redo()", x.redo(), 0);
        x.change(0);
        due.is("image() anew", x.image(), 1);
        x.begin(0);
        due.is("back() to the later one", x.back(), 1);
        due.is("now(1)", x.now(1), 1);
    }

    private static void undoneTheLatestFirst() {
        due.sentence("CHANGES (COST) can be UNDONE, the latest first");
        OneLamp x = Due.wall(3, "");
        due.is("none: undo()", x.undo(), STATE);
        x.cost(0, 5);
        x.cost(1, 6);
        x.cost(0, 7);
        due.is("undo()", x.undo(), 2);
        due.is("lamp(0, 0)", x.lamp(0, 0), 5);
        due.is("undo()", x.undo(), 1);
        due.is("lamp(1, 0)", x.lamp(1, 0), 1);
        due.is("lamp(0, 0)", x.lamp(0, 0), 5);
        due.is("undo()", x.undo(), 0);
        due.is("lamp(0, 0)", x.lamp(0, 0), 1);
        due.is("undo()", x.undo(), STATE);
        due.is("lamp(0, 0)", x.lamp(0, 0), 1);
    }

    private static void doneAgain() {
        due.sentence("and DONE AGAIN (as long as no other came behind)");
        OneLamp x = Due.wall(3, "");
        due.is("none: redo()", x.redo(), STATE);
        x.cost(0, 5);
        x.cost(1, 6);
        due.is("none undone: redo()", x.redo(), STATE);
        x.undo();
        x.undo();
        due.is("redo()", x.redo(), 1);
        due.is("lamp(0, 0)", x.lamp(0, 0), 5);
        due.is("lamp(1, 0)", x.lamp(1, 0), 1);
        due.is("cost(0, 11) is refused", x.cost(0, 11), BAD);
        due.is("redo()", x.redo(), 0);
        due.is("lamp(1, 0)", x.lamp(1, 0), 6);
        due.is("redo()", x.redo(), STATE);
        x.undo();
        x.cost(2, 4);
        due.is("another came behind: redo()", x.redo(), STATE);
        due.is("lamp(1, 0)", x.lamp(1, 0), 1);
        due.is("count(2)", x.count(2), 2);
        x.undo();
        x.cost(2, 4);
        due.is("the same came again: redo()", x.redo(), STATE);
        due.is("count(2)", x.count(2), 2);
    }

    private static void fortyAreKept() {
        due.sentence("the 41st takes the oldest one's place.");
        OneLamp x = Due.wall(3, "");
        x.cost(9, 3);
        for (int k = 1; k < 40; k++) {
            x.cost(k % 3, 1 + (k + 2) / 3 % 9);
            due.is("count(2)", x.count(2), k + 1);
        }
        due.is("the 41st: cost(8, 5)", x.cost(8, 5), 1);
        due.is("count(2)", x.count(2), 40);
        for (int k = 39; k >= 0; k--) {
            due.is("undo()", x.undo(), k);
        }
        due.is("undo() of the oldest", x.undo(), STATE);
        due.is("the oldest stays: cost(9, 3)", x.cost(9, 3), 3);
        for (int l = 0; l < 9; l++) {
            due.is("undone: cost(" + l + ", 1)", x.cost(l, 1), 1);
        }
        for (int k = 39; k >= 0; k--) {
            due.is("redo()", x.redo(), k);
        }
        due.is("redo() of no more", x.redo(), STATE);
        due.is("done again: cost(8, 5)", x.cost(8, 5), 5);
        due.is("count(2)", x.count(2), 40);
    }

    private static void sameNumberIsNoChange() {
        due.sentence("Telling the same number is no CHANGE");
        OneLamp x = Due.wall(3, "");
        due.is("cost(0, 1)", x.cost(0, 1), 1);
        due.is("count(2)", x.count(2), 0);
        due.is("undo()", x.undo(), STATE);
        x.cost(0, 5);
        x.undo();
        due.is("cost(0, 1) again", x.cost(0, 1), 1);
        due.is("it does not come behind: redo()", x.redo(), 0);
        due.is("cost(0, 5) again", x.cost(0, 5), 5);
        due.is("count(2)", x.count(2), 1);
        for (int k = 0; k < 39; k++) {
            x.cost(1, k % 2);
            x.cost(1, k % 2);
        }
        due.is("thirty-nine more: count(2)", x.count(2), 40);
        due.is("cost(1, 0) once more", x.cost(1, 0), 0);
        for (int k = 39; k >= 0; k--) {
            due.is("undo()", x.undo(), k);
        }
        due.is("the oldest one's place was not taken: lamp(0, 0)", x.lamp(0, 0), 1);
    }
}
