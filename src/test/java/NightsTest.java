/** Promises 13 to 19: nights. */
public final class NightsTest {
    private static final int BAD = Due.BAD, NOT = Due.NOT, STATE = Due.STATE;
    private static final Due due = new Due("NightsTest");

    public static void main(String[] args) {
        mayAndHad();
        mayAndRest();
        mayAndShy();
        change();
        longestWays();
        longestUnderRules();
        wished();
        game();
        gameUnderRules();
        waysOfFewLamps();
        waysOfManyLamps();
        judgeRefuses();
        judgeFinds();
        judgeUnderRules();
        thoughtChangesNothing();
        thoughtFollowsEveryChange();
        everyStepOfFourLamps();
        allWallsOfThreeLamps();
        someWallsOfFourLamps();
        due.end();
    }

    private static void mayAndHad() {
        due.of("promise 13");
        OneLamp x = new OneLamp();
        due.is("may()", x.may(), 7);
        x.bar(2);
        due.is("may() with 2 barred", x.may(), 5);
        Due.law(x, "p=4");
        due.is("may() with 4 barred by law", x.may(), 1);
        Due.change(x, "0");
        due.is("may() at 1", x.may(), 6);
        Due.change(x, "1");
        due.is("may() at 3", x.may(), 4);
        Due.change(x, "2");
        due.is("may() at 7", x.may(), 3);
        due.is("a whole way", Due.change(new OneLamp(), "0102010"), 4);
        due.is("may() behind it", Due.wall(3, "0102010").may(), 0);
        due.is("may() of 10 lamps", Due.wall(10, "").may(), 1023);
        due.is("may() of 10 lamps", Due.wall(10, "9").may(), 511);
        due.is("may() of 1 lamp", Due.wall(1, "").may(), 1);
        due.is("may() of 1 lamp", Due.wall(1, "0").may(), 0);
    }

    private static void mayAndRest() {
        due.of("promise 13, rest");
        OneLamp x = Due.wall(4, "012");
        int[] want = {11, 11, 9, 8, 8, 8, 8, 8, 8, 8};
        for (int rest = 0; rest < 10; rest++) {
            x.set(0, rest);
            due.is("may() with rest " + rest, x.may(), want[rest]);
        }
        x = Due.wall(4, "01");
        int[] then = {13, 13, 12, 12};
        for (int rest = 0; rest < 4; rest++) {
            x.set(0, rest);
            due.is("may() with rest " + rest, x.may(), then[rest]);
        }
        x.set(0, 2);
        due.is("change(0) that rests", x.change(0), NOT);
        due.is("change(2)", x.change(2), 7);
        due.is("change(0) that has rested", x.change(0), 6);
        x.begin(0);
        due.is("none has been changed", x.may(), 15);
        x = Due.wall(3, "");
        x.set(0, 9);
        due.is("all may at the beginning", x.may(), 7);
        x.change(1);
        due.is("may()", x.may(), 5);
    }

    private static void mayAndShy() {
        due.of("promise 13, shy");
        OneLamp x = Due.wall(3, "01");
        due.is("not shy", x.may(), 5);
        x.set(1, 1);
        due.is("2 is beside 0", x.may(), 4);
        due.is("change(0)", x.change(0), NOT);
        due.is("change(2)", x.change(2), 7);
        due.is("5 is beside 1", x.may(), 1);
        due.is("change(0)", x.change(0), 6);
        due.is("4 and 2 are beside 0", x.may(), 0);
        x.set(1, 0);
        due.is("not shy", x.may(), 6);
        x = Due.wall(4, "");
        x.set(1, 1);
        due.is("only the one it is at", x.may(), 15);
        Due.change(x, "3");
        due.is("9 10 12 are beside none but 8", x.may(), 7);
        x = Due.wall(10, "98");
        x.set(1, 1);
        due.is("256 is beside 0", x.may(), 255);
    }

    private static void change() {
        due.of("promise 14");
        OneLamp x = new OneLamp();
        for (int l : new int[] {-1, 3, 10, 31, 32, Due.LOW, Due.HIGH}) {
            due.is("change(" + l + ")", x.change(l), BAD);
        }
        x.cost(1, 4);
        due.is("change(1)", x.change(1), 2);
        due.is("change(1), had", x.change(1), NOT);
        due.is("night", x.now(2), 1);
        due.is("spent", x.now(4), 4);
        due.is("often", x.lamp(1, 1), 1);
        due.is("last", x.lamp(1, 2), 1);
        due.is("had", x.picture(2, 0), 1);
        x.bar(6);
        due.is("change(2), barred", x.change(2), NOT);
        due.is("change(3) at last", x.change(3), BAD);
        due.is("change(0)", x.change(0), 3);
        due.is("change(2)", x.change(2), 7);
        due.is("change(1)", x.change(1), 5);
        due.is("change(0)", x.change(0), 4);
        due.is("change(2), had", x.change(2), NOT);
        due.is("change(1), barred", x.change(1), NOT);
        due.is("night", x.now(2), 5);
        due.is("how many had", x.now(3), 6);
        due.is("spent", x.now(4), 11);
        x = Due.wall(10, "");
        due.is("change(9)", x.change(9), 512);
        due.is("change(0)", x.change(0), 513);
        due.is("change(9)", x.change(9), 1);
    }

    private static void isLongest(OneLamp x, String way) {
        due.is("longest(-1)", x.longest(-1), way.length());
        for (int i = 0; i < way.length(); i++) {
            due.is("longest(" + i + ")", x.longest(i), way.charAt(i) - '0');
        }
        due.is("longest(" + way.length() + ")", x.longest(way.length()), BAD);
        due.is("longest(HIGH)", x.longest(Due.HIGH), BAD);
        due.is("longest(-2)", x.longest(-2), BAD);
        due.is("longest(LOW)", x.longest(Due.LOW), BAD);
        due.is("longest(-1) again", x.longest(-1), way.length());
    }

    private static void longestWays() {
        due.of("promise 15");
        isLongest(Due.wall(1, ""), "0");
        isLongest(Due.wall(1, "0"), "");
        isLongest(Due.wall(2, ""), "010");
        isLongest(Due.wall(2, "1"), "01");
        isLongest(Due.wall(3, ""), "0102010");
        isLongest(Due.wall(3, "0102"), "010");
        isLongest(Due.wall(3, "012"), "1012");
        isLongest(Due.wall(4, ""), "010201030102010");
        isLongest(Due.wall(4, "3"), "01020103010201");
        OneLamp x = Due.wall(3, "");
        x.begin(5);
        isLongest(x, "0102010");
        x = Due.wall(5, "");
        due.is("5 lamps: longest(-1)", x.longest(-1), STATE);
        due.is("5 lamps: longest(0)", x.longest(0), STATE);
        due.is("5 lamps: longest(99)", x.longest(99), STATE);
        due.is("5 lamps: longest(-2)", x.longest(-2), BAD);
    }

    private static void longestUnderRules() {
        due.of("promise 15, under rules");
        OneLamp x = Due.wall(3, "");
        x.bar(1);
        isLongest(x, "102010");
        x.bar(7);
        isLongest(x, "1210");
        x.bar(2);
        isLongest(x, "20");
        x.bar(4);
        isLongest(x, "");
        x = Due.wall(3, "");
        Due.law(x, "l=3");
        isLongest(x, "010210");
        x = Due.wall(3, "");
        x.set(1, 1);
        isLongest(x, "0120");
        x = Due.wall(4, "");
        x.set(1, 1);
        isLongest(x, "0120310");
        x = Due.wall(3, "");
        x.set(0, 1);
        isLongest(x, "0102010");
        x.set(0, 2);
        isLongest(x, "01201");
        x.set(0, 3);
        isLongest(x, "012");
        Due.change(x, "1");
        isLongest(x, "02");
        x = Due.wall(4, "");
        x.set(0, 9);
        isLongest(x, "0123");
    }

    private static void areWished(OneLamp x, int... want) {
        for (int t = 0; t < 16; t++) {
            due.is("wished(" + t + ")", x.wished(t), t < want.length ? want[t] : 0);
        }
        due.is("wished(-1)", x.wished(-1), BAD);
        due.is("wished(16)", x.wished(16), BAD);
        due.is("wished(LOW)", x.wished(Due.LOW), BAD);
        due.is("wished(HIGH)", x.wished(Due.HIGH), BAD);
    }

    private static void wished() {
        due.of("promise 16");
        areWished(Due.wall(1, ""), 1, 2);
        areWished(Due.wall(1, "0"), 2);
        areWished(Due.wall(2, ""), 1, 6, 8, 6);
        areWished(Due.wall(2, "1"), 4, 8, 2);
        int odd = 1 << 1 | 1 << 2 | 1 << 4 | 1 << 7;
        int even = 1 << 3 | 1 << 5 | 1 << 6;
        areWished(Due.wall(3, ""), 1, 22, even, odd, even, odd, even, odd);
        int odd4 = ~0x9669 & 0xFFFF;
        int even4 = 0x9669 & ~1;
        int two = 1 << 3 | 1 << 5 | 1 << 6 | 1 << 9 | 1 << 10 | 1 << 12;
        areWished(Due.wall(4, ""), 1, 278, two, odd4, even4, odd4, even4, odd4, even4, odd4, even4, odd4, even4, odd4, even4, odd4);
        OneLamp x = Due.wall(3, "");
        x.set(1, 1);
        areWished(x, 1, 22, even, 128, even);
        x.set(1, 0);
        x.set(0, 2);
        areWished(x, 1, 22, even, 128, even, 22);
        x.set(0, 3);
        areWished(x, 1, 22, even, 128);
        x.set(0, 0);
        x.bar(1);
        x.bar(7);
        areWished(x, 1, 20, 64 + 8 + 32, 20, 8 + 32);
        x.begin(1);
        due.is("it is at a barred one", x.wished(0), 2);
        x = Due.wall(5, "");
        for (int t = 0; t < 16; t++) {
            due.is("5 lamps: wished(" + t + ")", x.wished(t), STATE);
        }
        due.is("5 lamps: wished(16)", x.wished(16), BAD);
        due.is("5 lamps: wished(-1)", x.wished(-1), BAD);
    }

    private static void wins(OneLamp x, int lamp) {
        due.is("game(0)", x.game(0), lamp == NOT ? 0 : 1);
        due.is("game(1)", x.game(1), lamp);
    }

    private static void game() {
        due.of("promise 17");
        OneLamp x = Due.wall(2, "");
        for (int what : new int[] {-1, 2, Due.LOW, Due.HIGH}) {
            due.is("game(" + what + ")", x.game(what), BAD);
        }
        wins(Due.wall(1, ""), 0);
        wins(Due.wall(1, "0"), NOT);
        wins(Due.wall(2, ""), 0);
        wins(Due.wall(2, "0"), NOT);
        wins(Due.wall(2, "01"), 0);
        wins(Due.wall(2, "10"), 1);
        wins(Due.wall(2, "010"), NOT);
        wins(Due.wall(3, ""), 0);
        wins(Due.wall(3, "0"), NOT);
        wins(Due.wall(4, ""), 0);
        wins(Due.wall(4, "0"), NOT);
        wins(Due.wall(4, "012"), NOT);
        x = Due.wall(5, "");
        due.is("5 lamps: game(0)", x.game(0), STATE);
        due.is("5 lamps: game(1)", x.game(1), STATE);
        due.is("5 lamps: game(2)", x.game(2), BAD);
        due.is("5 lamps: game(-1)", x.game(-1), BAD);
    }

    private static void gameUnderRules() {
        due.of("promise 17, under rules");
        OneLamp x = Due.wall(3, "");
        Due.law(x, "p=2|p>4");
        wins(x, 2);
        x.bar(4);
        wins(x, NOT);
        x.bar(3);
        wins(x, 0);
        x.bar(1);
        wins(x, NOT);
        x = Due.wall(3, "");
        x.set(1, 1);
        wins(x, NOT);
        x.set(0, 2);
        wins(x, NOT);
        x.set(1, 0);
        wins(x, 0);
        x.set(0, 3);
        wins(x, 0);
        Due.change(x, "0");
        wins(x, NOT);
        x = Due.wall(2, "");
        x.set(0, 2);
        wins(x, NOT);
        x.change(1);
        wins(x, 0);
        x = Due.wall(4, "");
        x.set(0, 9);
        wins(x, NOT);
    }

    private static void waysOfFewLamps() {
        due.of("promise 18");
        OneLamp x = Due.wall(3, "");
        int[][] refused = {{-1, 0}, {8, 0}, {0, -1}, {0, 6}, {8, 6}, {Due.LOW, 1}, {Due.HIGH, 1}, {1, Due.HIGH},
            {1, Due.LOW}};
        for (int[] pair : refused) {
            due.is("ways(" + pair[0] + ", " + pair[1] + ")", x.ways(pair[0], pair[1]), BAD);
        }
        for (int p = 0; p < 8; p++) {
            for (int m = 0; m < 6; m++) {
                due.is("ways(" + p + ", " + m + ")", x.ways(p, m), waysByHand(p, m));
            }
        }
        due.is("ways(1, 3)", x.ways(1, 3), 2);
        due.is("ways(7, 3)", x.ways(7, 3), 6);
        x.bar(1);
        due.is("ways(3, 2) with 1 barred", x.ways(3, 2), 1);
        due.is("ways(1, 1) with 1 barred", x.ways(1, 1), 0);
        x.begin(1);
        due.is("ways(1, 0) at a barred one", x.ways(1, 0), 1);
        x = Due.wall(3, "0");
        due.is("ways(0, 1), had", x.ways(0, 1), 0);
        due.is("ways(2, 2)", x.ways(2, 2), 1);
        due.is("ways(1, 0)", x.ways(1, 0), 1);
        due.is("ways(1, 2)", x.ways(1, 2), 0);
        x.set(0, 2);
        due.is("ways(2, 2), lamp 0 rests", x.ways(2, 2), 0);
        x.set(0, 0);
        x.set(1, 1);
        due.is("ways(2, 2), shy", x.ways(2, 2), 0);
        due.is("ways(7, 2), shy", x.ways(7, 2), 2);
        due.is("ways(6, 3), shy", x.ways(6, 3), 2);
    }

    /** Ways among three lamps from 0: all rows of lamps are tried. */
    private static int waysByHand(int goal, int nights) {
        int ways = 0;
        for (int row = 0; row < Math.pow(3, nights); row++) {
            int at = 0;
            int had = 1;
            boolean good = true;
            for (int k = 0, rest = row; k < nights; k++, rest /= 3) {
                at ^= 1 << rest % 3;
                good &= (had >> at & 1) == 0;
                had |= 1 << at;
            }
            ways += good && at == goal ? 1 : 0;
        }
        return ways;
    }

    private static void waysOfManyLamps() {
        due.of("promise 18, many lamps");
        OneLamp x = Due.wall(10, "");
        due.is("ways(0, 0)", x.ways(0, 0), 1);
        due.is("ways(512, 0)", x.ways(512, 0), 0);
        due.is("ways(512, 1)", x.ways(512, 1), 1);
        due.is("ways(768, 2)", x.ways(768, 2), 2);
        due.is("ways(896, 3)", x.ways(896, 3), 6);
        due.is("ways(960, 4)", x.ways(960, 4), 24);
        due.is("ways(992, 5)", x.ways(992, 5), 120);
        due.is("ways(1008, 5)", x.ways(1008, 5), 0);
        due.is("ways(512, 3)", x.ways(512, 3), 9);
        due.is("ways(0, 2)", x.ways(0, 2), 0);
        due.is("ways(0, 4)", x.ways(0, 4), 0);
        due.is("ways(512, 2)", x.ways(512, 2), 0);
        due.is("ways(1024, 1)", x.ways(1024, 1), BAD);
        x.begin(1023);
        due.is("ways(1023 - 31, 5)", x.ways(1023 - 31, 5), 120);
        Due.law(x, "h<10");
        due.is("ways(511, 1)", x.ways(511, 1), 0);
        due.is("ways(1022, 3)", x.ways(1022, 3), 8);
    }

    private static void judgeRefuses() {
        due.of("promise 19, refused");
        OneLamp x = new OneLamp();
        for (int shelf : new int[] {-1, 6, Due.LOW, Due.HIGH}) {
            due.is("judge(" + shelf + ")", x.judge(shelf), BAD);
        }
        for (int shelf = 0; shelf < 6; shelf++) {
            due.is("judge(" + shelf + ")", x.judge(shelf), -11);
        }
        for (int sort = 0; sort < 5; sort++) {
            x.row(0, sort, 0);
            due.is("sort " + sort, x.judge(0), sort == 1 ? NOT : -12);
            x.row(0, sort, 1);
            due.is("sort " + sort, x.judge(0), sort == 1 ? NOT : -12);
        }
        x.body(0);
        x.keep(0, 0);
        due.is("a body", x.judge(0), -12);
        x.keep(0, -1);
        due.is("nothing", x.judge(0), -11);
    }

    private static void judged(OneLamp x, int want, long... row) {
        Due.row(x, 4, 1, row);
        StringBuilder text = new StringBuilder("judge by");
        for (long picture : row) {
            text.append(' ').append(picture);
        }
        due.is(text.toString(), x.judge(4), want);
    }

    private static void judgeFinds() {
        due.of("promise 19");
        OneLamp x = new OneLamp();
        judged(x, NOT, 0, 1, 3, 2, 6, 7, 5, 4);
        judged(x, 8, 0, 1, 3, 2, 6, 7, 5, 4, 0);
        judged(x, NOT, 5);
        judged(x, NOT, 7, 6);
        judged(x, 0, 8);
        judged(x, 0, -1, 0);
        judged(x, 0, -32768);
        judged(x, 1, 0, 8);
        judged(x, 1, 0, -1);
        judged(x, 1, 0, 0);
        judged(x, 1, 0, 3);
        judged(x, 1, 0, 7, 1);
        judged(x, 2, 0, 1, 0);
        judged(x, 2, 0, 1, 2);
        judged(x, 4, 0, 1, 3, 2, 0);
        judged(x, 3, 0, 1, 3, 32767);
        x.bar(3);
        judged(x, 2, 0, 1, 3, 2);
        judged(x, 0, 3, 2);
        judged(x, NOT, 2, 0, 1);
        Due.law(x, "p=2");
        judged(x, 0, 2, 0, 1);
        judged(x, 1, 0, 2);
        x.lamps(10);
        judged(x, NOT, 0, 512, 513, 1);
        judged(x, 3, 0, 512, 513, 1024);
        x.row(4, 1, 60);
        for (int k = 0; k < 60; k++) {
            x.put(4, k, 64 + (k ^ k >> 1));
        }
        due.is("sixty", x.judge(4), NOT);
        x.put(4, 59, 64 + 15);
        due.is("the last is wrong", x.judge(4), 59);
    }

    private static void judgeUnderRules() {
        due.of("promise 19, under rules");
        OneLamp x = new OneLamp();
        Due.change(x, "01");
        judged(x, NOT, 0, 1, 3, 2);
        judged(x, NOT, 3, 1, 0);
        x.set(0, 1);
        judged(x, NOT, 0, 1, 3, 2);
        judged(x, NOT, 1, 0, 2);
        x.set(0, 2);
        judged(x, 3, 0, 1, 3, 2);
        judged(x, NOT, 0, 1, 3, 7, 6, 4);
        judged(x, NOT, 2, 3, 1, 5, 4, 6);
        x.set(0, 3);
        judged(x, 4, 0, 1, 3, 7, 6, 4);
        x.set(0, 0);
        x.set(1, 1);
        judged(x, 3, 0, 1, 3, 2);
        judged(x, NOT, 0, 1, 3, 7, 6);
        judged(x, 5, 0, 1, 3, 7, 6, 4);
        due.is("the wall is as it was", x.now(1), 3);
        due.is("its nights, too", x.now(2), 2);
        due.is("lamp(1, 2)", x.lamp(1, 2), 2);
    }

    /** Asked ahead of each change and behind it, so that nothing thought earlier is answered again. */
    private static void thoughtFollowsEveryChange() {
        due.of("promises 13 to 19, from now");
        OneLamp x = Due.wall(2, "");
        Due.row(x, 0, 1, 0, 1, 3);
        Due.row(x, 1, 1, 3);
        int[] free = {3, 3, 8, 0, 2, NOT};
        areThought(x, "at first", free);
        x.image();
        x.change(0);
        areThought(x, "change(0)", 2, 2, 4, NOT, 0, NOT);
        x.back();
        areThought(x, "back()", free);
        x.bar(1);
        areThought(x, "bar(1)", 2, 2, 8, NOT, 1, 1);
        x.begin(3);
        areThought(x, "begin(3)", 1, 2, 1, NOT, 0, 1);
        x.lamps(2);
        areThought(x, "lamps(2)", free);
        Due.law(x, "p=2");
        areThought(x, "law p=2", 1, 2, 8, NOT, 1, NOT);
        Due.law(x, "0");
        areThought(x, "law 0", free);
        x.set(0, 2);
        areThought(x, "rest 2", 3, 2, 8, NOT, 2, NOT);
        x.set(0, 0);
        areThought(x, "rest 0", free);
        x.set(1, 1);
        areThought(x, "shy", 3, 2, 8, NOT, 2, NOT);
        x.set(1, 0);
        areThought(x, "not shy", free);
        x.bars(1, 0, 1);
        areThought(x, "bars of 3", 3, 1, 0, 0, 0, 2);
    }

    private static void areThought(OneLamp x, String behind, int... want) {
        due.is(behind + ": may()", x.may(), want[0]);
        due.is(behind + ": longest(-1)", x.longest(-1), want[1]);
        due.is(behind + ": wished(2)", x.wished(2), want[2]);
        due.is(behind + ": game(1)", x.game(1), want[3]);
        due.is(behind + ": ways(3, 2)", x.ways(3, 2), want[4]);
        due.is(behind + ": judge(0)", x.judge(0), want[5]);
    }

    /** Nothing is free but two pictures, each beside the one ahead: the ways there are the only ones. */
    private static void everyStepOfFourLamps() {
        due.of("promises 13 to 18, one way");
        for (int p = 0; p < 16; p++) {
            for (int first = 0; first < 4; first++) {
                for (int second = 0; second < 4; second++) {
                    int next = p ^ 1 << first;
                    int last = next ^ 1 << second;
                    OneLamp x = Due.wall(4, "");
                    Due.law(x, "!(p=" + next + "|p=" + last + ")");
                    x.begin(p);
                    boolean two = first != second;
                    due.is("may()", x.may(), 1 << first);
                    due.is("longest(-1)", x.longest(-1), two ? 2 : 1);
                    due.is("longest(0)", x.longest(0), first);
                    due.is("longest(1)", x.longest(1), two ? second : BAD);
                    due.is("wished(1)", x.wished(1), 1 << next);
                    due.is("wished(2)", x.wished(2), two ? 1 << last : 0);
                    due.is("game(1)", x.game(1), two ? NOT : first);
                    due.is("ways(" + last + ", 2)", x.ways(last, 2), two ? 1 : 0);
                }
            }
        }
    }

    private static void allWallsOfThreeLamps() {
        due.of("promises 15 to 17, all walls of three lamps");
        for (int barred = 0; barred < 256; barred++) {
            for (int p = 0; p < 8; p++) {
                isThought(3, barred, p);
            }
        }
    }

    private static void someWallsOfFourLamps() {
        due.of("promises 15 to 17, walls of four lamps");
        for (int barred = 0; barred < 65536; barred += 97) {
            if (Integer.bitCount(barred) > 4) {
                isThought(4, barred, barred / 97 % 16);
            }
        }
    }

    /** Thought about a wall with these pictures barred, held against the Model. */
    private static void isThought(int lamps, int barred, int picture) {
        OneLamp x = Due.wall(lamps, "");
        Model model = new Model();
        model.lamps(lamps);
        for (int p = 0; p < 1 << lamps; p++) {
            if ((barred >> p & 1) == 1) {
                x.bar(p);
                model.bar(p);
            }
        }
        x.begin(picture);
        model.begin(picture);
        String wall = " at " + picture + " of " + lamps + " lamps, barred " + barred;
        int nights = model.longest(-1);
        for (int i = -1; i <= nights; i++) {
            due.is("longest(" + i + ")" + wall, x.longest(i), i == -1 ? nights : model.longest(i));
        }
        for (int t = 0; t <= nights + 1 && t <= 15; t++) {
            due.is("wished(" + t + ")" + wall, x.wished(t), model.wished(t));
        }
        due.is("game(1)" + wall, x.game(1), model.game(1));
    }

    private static void thoughtChangesNothing() {
        due.of("thought");
        OneLamp x = Due.wall(4, "01");
        x.bar(2);
        x.cost(1, 3);
        Due.row(x, 0, 1, 0, 4, 5);
        x.longest(-1);
        x.wished(7);
        x.game(1);
        x.ways(15, 4);
        x.judge(0);
        x.through(0, 7, 3);
        int[] want = {4, 3, 2, 3, 2, 15 - 1 + 3, 0, 0};
        for (int what = 0; what < 8; what++) {
            due.is("now(" + what + ")", x.now(what), want[what]);
        }
        due.is("may()", x.may(), 12);
        due.is("count(0)", x.count(0), 1);
        due.is("picture(4, 0)", x.picture(4, 0), 0);
        due.is("lamp(2, 2)", x.lamp(2, 2), NOT);
        due.is("lamp(2, 1)", x.lamp(2, 1), 0);
    }
}
