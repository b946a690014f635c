/** Promises 1 to 12: the wall. */
public final class WallTest {
    private static final int BAD = Due.BAD, NOT = Due.NOT, FULL = Due.FULL, STATE = Due.STATE;
    private static final Due due = new Due("WallTest");

    public static void main(String[] args) {
        newObject();
        constants();
        lamps();
        begin();
        bar();
        barsThatGoThrough();
        barsThatAreRefused();
        feed();
        lawThatStands();
        lawValues();
        lawFaults();
        lawOfTheWall();
        set();
        cost();
        now();
        picture();
        lamp();
        due.end();
    }

    private static void isFresh(OneLamp x, int picture) {
        due.is("now(1)", x.now(1), picture);
        due.is("now(2)", x.now(2), 0);
        due.is("now(3)", x.now(3), 1);
        due.is("now(4)", x.now(4), 0);
        int n = x.now(0);
        for (int p = 0; p < 1 << n; p += n > 6 ? 31 : 1) {
            due.is("picture(" + p + ", 0)", x.picture(p, 0), p == picture ? 1 : 0);
        }
        due.is("picture(" + picture + ", 0)", x.picture(picture, 0), 1);
        for (int l = 0; l < n; l++) {
            due.is("lamp(" + l + ", 1)", x.lamp(l, 1), 0);
            due.is("lamp(" + l + ", 2)", x.lamp(l, 2), NOT);
        }
    }

    private static void constants() {
        due.of("the constants");
        due.is("BAD", OneLamp.BAD, -1);
        due.is("NOT", OneLamp.NOT, -2);
        due.is("FULL", OneLamp.FULL, -3);
        due.is("STATE", OneLamp.STATE, -5);
        due.is("VOID", OneLamp.VOID, -2000000000);
    }

    private static void newObject() {
        due.of("promise 1");
        OneLamp x = new OneLamp();
        due.is("now(0)", x.now(0), 3);
        isFresh(x, 0);
        due.is("now(5)", x.now(5), 7);
        due.is("now(6)", x.now(6), 0);
        due.is("now(7)", x.now(7), 0);
        for (int p = 0; p < 8; p++) {
            due.is("picture(" + p + ", 1)", x.picture(p, 1), 0);
        }
        for (int l = 0; l < 10; l++) {
            due.is("cost of " + l, x.cost(l, 1), 1);
        }
        for (int what = 0; what < 5; what++) {
            due.is("count(" + what + ")", x.count(what), 0);
        }
        for (int shelf = 0; shelf < 6; shelf++) {
            due.is("taken(" + shelf + ", 0)", x.taken(shelf, 0), -11);
        }
        due.is("may()", x.may(), 7);
        due.is("back()", x.back(), STATE);
        due.is("undo()", x.undo(), STATE);
        due.is("redo()", x.redo(), STATE);
        due.is("trace(0)", x.trace(0), BAD);
        x.change(0);
        due.is("another one is dark", new OneLamp().now(1), 0);
    }

    private static void lamps() {
        due.of("promise 2");
        OneLamp x = new OneLamp();
        for (int n : new int[] {0, 11, -1, 32, Due.LOW, Due.HIGH}) {
            due.is("lamps(" + n + ")", x.lamps(n), BAD);
        }
        due.is("now(0)", x.now(0), 3);
        int before = 3;
        for (int n = 10; n >= 1; n--) {
            due.is("lamps(" + n + ")", x.lamps(n), before);
            due.is("now(0)", x.now(0), n);
            due.is("may()", x.may(), (1 << n) - 1);
            before = n;
        }
        x.lamps(4);
        x.set(0, 2);
        x.set(1, 1);
        x.cost(2, 7);
        x.bar(9);
        x.begin(5);
        Due.law(x, "p=3");
        Due.row(x, 2, 1, 4);
        x.body(3);
        x.image();
        due.is("change(1)", x.change(1), 7);
        due.is("lamps(0)", x.lamps(0), BAD);
        due.is("lamps(0) changes nothing", x.now(2), 1);
        due.is("lamps(4) again", x.lamps(4), 4);
        isFresh(x, 0);
        due.is("count(0)", x.count(0), 0);
        due.is("picture(9, 1)", x.picture(9, 1), 0);
        due.is("the law stays", x.picture(3, 1), 1);
        due.is("rest stays", x.now(6), 2);
        due.is("shy stays", x.now(7), 1);
        due.is("cost stays", x.lamp(2, 0), 7);
        due.is("what can be undone stays", x.count(2), 1);
        due.is("shelves stay", x.element(2, 0), 4);
        due.is("bodies stay", x.count(3), 1);
        due.is("the image stays", x.back(), 0);
        due.is("the image's picture", x.now(1), 5);
    }

    private static void begin() {
        due.of("promise 3");
        OneLamp x = new OneLamp();
        for (int p : new int[] {-1, 8, 9, Due.LOW, Due.HIGH}) {
            due.is("begin(" + p + ")", x.begin(p), BAD);
        }
        x.bar(6);
        x.cost(1, 4);
        x.set(0, 1);
        Due.change(x, "01");
        due.is("begin(8) again", x.begin(8), BAD);
        due.is("what is refused changes nothing", x.now(2), 2);
        due.is("begin(7)", x.begin(7), 7);
        isFresh(x, 7);
        due.is("barred ones stay", x.picture(6, 1), 1);
        due.is("count(0)", x.count(0), 1);
        due.is("cost stays", x.lamp(1, 0), 4);
        due.is("rest stays", x.now(6), 1);
        due.is("may()", x.may(), 6);
        due.is("begin(6), that is barred", x.begin(6), 6);
        due.is("begin(0)", x.begin(0), 0);
        isFresh(x, 0);
        x.lamps(10);
        due.is("begin(1023)", x.begin(1023), 1023);
        isFresh(x, 1023);
        due.is("begin(1024)", x.begin(1024), BAD);
    }

    private static void bar() {
        due.of("promise 4");
        OneLamp x = new OneLamp();
        due.is("bar(-1)", x.bar(-1), BAD);
        due.is("bar(8)", x.bar(8), BAD);
        due.is("bar(LOW)", x.bar(Due.LOW), BAD);
        due.is("bar(HIGH)", x.bar(Due.HIGH), BAD);
        due.is("count(0)", x.count(0), 0);
        for (int p = 0; p < 8; p++) {
            due.is("bar(" + p + ")", x.bar(p), 1);
            due.is("bar(" + p + ") again", x.bar(p), 0);
            due.is("count(0)", x.count(0), p + 1);
            due.is("picture", x.picture(p, 1), 1);
        }
        due.is("may()", x.may(), 0);
        x.lamps(10);
        due.is("bar(1023)", x.bar(1023), 1);
        due.is("bar(64)", x.bar(64), 1);
        due.is("picture(0, 1)", x.picture(0, 1), 0);
        due.is("picture(63, 1)", x.picture(63, 1), 0);
        due.is("bar(1024)", x.bar(1024), BAD);
        Due.law(x, "p=5");
        due.is("bar(5), barred by the law alone", x.bar(5), 1);
        due.is("bar(5) again", x.bar(5), 0);
        due.is("count(0)", x.count(0), 3);
    }

    private static void barsThatGoThrough() {
        due.of("promise 5");
        OneLamp x = new OneLamp();
        due.is("a missing row", x.bars(0, 0, 5), 0);
        due.is("a missing row, i -1", x.bars(0, -1, 5), 0);
        Due.row(x, 0, 1, 5, 2, 5, 7, 8, 1);
        due.is("i below 0", x.bars(0, -1, 3), 0);
        due.is("i LOW", x.bars(0, Due.LOW, 30), 0);
        due.is("i HIGH", x.bars(0, Due.HIGH, 30), 0);
        due.is("i at the end", x.bars(0, 6, 2), 0);
        due.is("count(0)", x.count(0), 0);
        due.is("one", x.bars(0, 0, 1), 1);
        due.is("picture(5, 1)", x.picture(5, 1), 1);
        due.is("picture(2, 1)", x.picture(2, 1), 0);
        due.is("those that were count, too", x.bars(0, 0, 3), 3);
        due.is("count(0)", x.count(0), 2);
        due.is("it ends at 8", x.bars(0, 0, 30), 4);
        due.is("count(0)", x.count(0), 3);
        due.is("picture(7, 1)", x.picture(7, 1), 1);
        due.is("picture(1, 1)", x.picture(1, 1), 0);
        due.is("8 is none of the wall's", x.bars(0, 4, 2), 0);
        due.is("it ends with the row", x.bars(0, 5, 2), 1);
        due.is("picture(1, 1)", x.picture(1, 1), 1);
        Due.row(x, 1, 1, 0, -1, 3);
        due.is("it ends at -1", x.bars(1, 0, 3), 1);
        due.is("picture(3, 1)", x.picture(3, 1), 0);
        x.row(2, 1, 0);
        due.is("a row without elements", x.bars(2, 0, 1), 0);
        x.lamps(10);
        x.row(3, 1, 60);
        for (int k = 0; k < 60; k++) {
            x.put(3, k, 1023 - k);
        }
        due.is("thirty", x.bars(3, 0, 30), 30);
        due.is("count(0)", x.count(0), 30);
        due.is("ten to the end", x.bars(3, 50, 30), 10);
        due.is("count(0)", x.count(0), 40);
    }

    private static void barsThatAreRefused() {
        due.of("promise 5, refused");
        OneLamp x = new OneLamp();
        Due.row(x, 0, 1, 1, 2, 3);
        due.is("shelf -1", x.bars(-1, 0, 1), BAD);
        due.is("shelf 6", x.bars(6, 0, 1), BAD);
        due.is("n 0", x.bars(0, 0, 0), BAD);
        due.is("n 31", x.bars(0, 0, 31), BAD);
        due.is("n -1", x.bars(0, -1, -1), BAD);
        due.is("n 0 of nothing", x.bars(5, 0, 0), BAD);
        for (int sort = 0; sort < 5; sort++) {
            x.row(1, sort, 3);
            due.is("sort " + sort, x.bars(1, 0, 1), sort == 1 ? 1 : -12);
            due.is("sort " + sort + ", i -1", x.bars(1, -1, 1), sort == 1 ? 0 : -12);
        }
        x.body(0);
        x.keep(1, 0);
        due.is("a body", x.bars(1, 0, 1), -12);
        due.is("a body, n 31", x.bars(1, 0, 31), BAD);
        due.is("count(0)", x.count(0), 1);
    }

    private static void feed() {
        due.of("promise 6");
        OneLamp x = new OneLamp();
        for (int letter : new int[] {-1, 256, Due.LOW, Due.HIGH}) {
            due.is("feed(" + letter + ")", x.feed(letter), BAD);
        }
        due.is("count(1)", x.count(1), 0);
        due.is("feed(0)", x.feed(0), 1);
        due.is("feed(255)", x.feed(255), 2);
        for (int k = 3; k <= 120; k++) {
            due.is("feed", x.feed('1'), k);
        }
        due.is("the 121st", x.feed('1'), FULL);
        due.is("BAD comes ahead of FULL", x.feed(256), BAD);
        due.is("count(1)", x.count(1), 120);
        due.is("law()", x.law(), -100);
        due.is("count(1)", x.count(1), 0);
        due.is("feed again", x.feed('1'), 1);
    }

    private static void lawThatStands() {
        due.of("promise 7");
        OneLamp x = new OneLamp();
        due.is("nothing on the tape", x.law(), -100);
        Due.feed(x, "p=5");
        due.is("not yet a law", x.picture(5, 1), 0);
        due.is("law()", x.law(), 1);
        due.is("the tape is empty then", x.count(1), 0);
        due.is("picture(5, 1)", x.picture(5, 1), 1);
        due.is("picture(4, 1)", x.picture(4, 1), 0);
        due.is("told ones alone are counted", x.count(0), 0);
        due.is("a fault", Due.law(x, "p=4="), -103);
        due.is("the tape is empty then, too", x.count(1), 0);
        due.is("the law stays", x.picture(5, 1), 1);
        due.is("the law stays", x.picture(4, 1), 0);
        due.is("no text", x.law(), -100);
        due.is("the law stays", x.picture(5, 1), 1);
        x.bar(1);
        due.is("another law", Due.law(x, "p=4"), 1);
        due.is("picture(5, 1)", x.picture(5, 1), 0);
        due.is("picture(4, 1)", x.picture(4, 1), 1);
        due.is("picture(1, 1)", x.picture(1, 1), 1);
        due.is("none barred", Due.law(x, "0"), 1);
        due.is("picture(4, 1)", x.picture(4, 1), 0);
        due.is("picture(1, 1)", x.picture(1, 1), 1);
        String long1 = "1+".repeat(59) + "10";
        due.is("120 letters", Due.law(x, long1 + "=69"), 1);
        due.is("the last one did not come", x.picture(0, 1), 1);
        String long2 = "1+".repeat(58) + "1=59";
        due.is("120 letters", Due.law(x, long2 + "0"), 1);
        due.is("barred: 59 is 59", x.picture(0, 1), 1);
    }

    /** Whether a text, as the law of n lamps, bars a picture. */
    private static void bars(String text, int n, int picture, int want) {
        OneLamp x = new OneLamp();
        x.lamps(n);
        due.is("law " + text, Due.law(x, text), 1);
        due.is(text + " of " + picture, x.picture(picture, 1), want);
    }

    private static void lawValues() {
        due.of("the law of 4 lamps, picture 13");
        String[] yes = {"p", "p=13", "l=3", "n=4", "h=4", "1", "9999", "0001", "-1", "!0", "(p)", "13=p",
            "2+3*4=14", "(2+3)*4=20", "9-3-2=4", "100/5/2=10", "17%10%4=3", "7/2*2=6", "2*7/3=4", "-7/2=-3", "7/-2=-3",
            "-7%3=-1", "7%-3=1", "5/0=0", "5%0=0", "0/0=0", "!5=0", "!!5=1", "-!0=-1", "!-0=1", "--p=13", "p--1=14",
            "3|0=1", "0|4=4", "(2|4)=1", "(0|0)=0", "(2&4)=1", "(2&0)=0", "(0&2)=0", "(1<2)=1", "(2<1)=0", "(1<1)=0",
            "(2>1)=1", "(1>2)=0", "(1>1)=0", "(3=3)=1", "(3=4)=0", "-1<0", "0>-1", "1|0&0", "0&0|1", "1<2&2<3",
            "0?0;1", "1?1", "2?3;0", "l=3?1;0", "0?1;0?1;1", "p=13?p=13;0", "1+1=2", "2-1", "-9+9=0", "(1-2)*3=-3",
            "!p=0", "!(p=12)", "-p+13=0", "2*-3=-6", "1-2*3+4=-1", "8-2>5", "5<2+4", "1;0"};
        for (String text : yes) {
            bars(text, 4, 13, 1);
        }
        String[] no = {"0", "0;1", "1?0;1", "0?1", "l=2?1;0?1;0", "p-13", "!p", "-0", "1-1", "0*p", "p=12", "0000",
            "0|0", "1&0", "2<2", "!1|0", "p<p", "-1+1", "p/14", "p%13", "1?0", "0?1;0", "(0)", "!!0"};
        for (String text : no) {
            bars(text, 4, 13, 0);
        }
        wrapping();
        lights();
        lines();
    }

    private static void wrapping() {
        due.of("the law wraps");
        int cube = 9999 * 9999 * 9999;
        bars("9999*9999*9999" + (cube < 0 ? "<" : ">") + "0", 4, 0, 1);
        int least = 1 << 31;
        String power = "(2048*1024*1024)";
        due.is("2048 * 1024 * 1024", 2048 * 1024 * 1024, least);
        bars(power + "<0", 4, 0, 1);
        bars(power + "-1>0", 4, 0, 1);
        bars("-" + power + "<0", 4, 0, 1);
        bars(power + "/-1<0", 4, 0, 1);
        bars(power + "%-1=0", 4, 0, 1);
        bars("(" + power + "-1)+1<0", 4, 0, 1);
    }

    private static void lights() {
        due.of("the names");
        for (int p = 0; p < 16; p++) {
            int lit = (p & 1) + (p >> 1 & 1) + (p >> 2 & 1) + (p >> 3);
            int highest = p > 7 ? 4 : p > 3 ? 3 : p > 1 ? 2 : p;
            bars("p=" + p + "&l=" + lit + "&h=" + highest + "&n=4", 4, p, 1);
            bars("p=" + p + "&l=" + lit + "&h=" + highest + "&n=10", 10, p, 1);
        }
        bars("h=10&l=10&p=1023", 10, 1023, 1);
        bars("h=10&l=1", 10, 512, 1);
        bars("h=1&n=1", 1, 1, 1);
        bars("h", 1, 0, 0);
    }

    private static void lines() {
        due.of("lines");
        String text = "p<3?p=1;l=2?0;h=3?p-4;1";
        int[] want = {0, 1, 0, 0, 0, 0, 0, 1};
        for (int p = 0; p < 8; p++) {
            bars(text, 3, p, want[p]);
        }
        bars(text, 4, 8, 1);
        bars("p=0?1;p=1?1;p=2?1", 3, 3, 0);
        bars("p=0?1;p=1?1;p=2?1", 3, 2, 1);
        bars("p-5?p-6", 3, 5, 0);
        bars("p-5?p-6", 3, 6, 0);
        bars("p-5?p-6", 3, 7, 1);
        bars("0;0;1", 3, 7, 0);
    }

    private static void fault(String text, int place) {
        OneLamp x = new OneLamp();
        due.is("law of " + text, Due.law(x, text), place < 0 ? 1 : -100 - place);
    }

    private static void lawFaults() {
        due.of("faults");
        String[] good = {"p", "l", "n", "h", "0", "9999", "0000", "p|l|n|h", "p&l&n", "p+l-n+h", "p*l/n%h", "p<l", "p=l",
            "p>l", "!p", "-p", "!!!!!!p", "------p", "!-!-!-p", "!(-(!(p)))", "((((((p))))))", "p?l", "p;l", "p?l;n?h;1",
            "p-((((((l))))))", "(((p)))", "p?((((((l))))))", "p?l;((((((n))))))?!!!!!!h", "!!!!!!p+!!!!!!p", "(p<l)<n",
            "p<l|l<n&n<h", "p--l", "p*-l", "(p|l)&(n|h)", "-(p)-(l)"};
        for (String text : good) {
            fault(text, -1);
        }
        String[] bad = {"0: ", "0:q", "1:p ", "0:x", "0:P", "1:pp", "1:p1", "1:p(", "1:p!", "1:p)", "0:)", "1:()", "0:|",
            "0:?", "0:;", "0:=", "0:+", "0:*p", "2:p||l", "2:p=", "3:p<l<n", "3:p=l=n", "3:p>l<n", "3:p?l?n", "2:(p?l)",
            "2:(p;l)", "2:p;", "2:p?", "2:p;;p", "2:p?;p", "1:(", "1:!", "1:-", "2:(p", "3:(p)p", "3:(p))", "2:p+",
            "2:p++l", "2:p<", "6:!!!!!!!p", "6:-------p", "6:((((((-p", "6:((((((!p", "6:((((((((", "6:!(-!(-(p",
            "7:((((((p", "8:((((((p+", "4:p?(l?n)", "0:L", "4:p&l|", "0:{", "1:p\u0000", "1:p\u00ff", "4:p?l;", "4:p?l+",
            "4:12345", "6:p=123456", "4:p=l|=n", "3:p+1q", "5:12*3*", "2:p%%", "2:p< l", "3:p=l>n", "1:p\n", "3:1+2.",
            "5:p+l*n!", "6:(p<l)<", "2:p&&l", "1:h3=1q", "1:n4", "7:(((p)))q", "6:(((p))", "0:~p", "0:'p'"};
        for (String row : bad) {
            int mark = row.indexOf(':');
            fault(row.substring(mark + 1), Integer.parseInt(row.substring(0, mark)));
        }
        fault("", 0);
        fault("1".repeat(120), 4);
        fault("1+".repeat(60), 120);
        fault("1+".repeat(57) + "((((((", 120);
        fault("1+".repeat(56) + "(((((((", 118);
        fault("p;".repeat(60), 120);
        fault("p;".repeat(59) + "p!", 119);
    }

    private static void lawOfTheWall() {
        due.of("the law and the wall");
        OneLamp x = new OneLamp();
        Due.law(x, "p>n");
        due.is("of 3 lamps: 4 is barred", x.picture(4, 1), 1);
        due.is("of 3 lamps: 3 is not", x.picture(3, 1), 0);
        x.image();
        x.lamps(4);
        due.is("of 4 lamps: 4 is not", x.picture(4, 1), 0);
        due.is("of 4 lamps: 5 is barred", x.picture(5, 1), 1);
        x.back();
        due.is("of 3 lamps again: 4 is barred", x.picture(4, 1), 1);
        due.is("may()", x.may(), 3);
        due.is("change(2)", x.change(2), NOT);
        Due.law(x, "0");
        due.is("may()", x.may(), 7);
        Due.law(x, "1");
        due.is("may()", x.may(), 0);
        due.is("begin(2), barred by the law", x.begin(2), 2);
    }

    private static void set() {
        due.of("promise 8");
        OneLamp x = new OneLamp();
        int[][] refused = {{0, -1}, {0, 10}, {1, -1}, {1, 2}, {2, 0}, {-1, 0}, {2, 1}, {Due.LOW, 0}, {Due.HIGH, 1},
            {0, Due.HIGH}, {0, Due.LOW}, {1, Due.HIGH}};
        for (int[] pair : refused) {
            due.is("set(" + pair[0] + ", " + pair[1] + ")", x.set(pair[0], pair[1]), BAD);
        }
        due.is("set(0, 9)", x.set(0, 9), 0);
        due.is("now(7)", x.now(7), 0);
        due.is("set(1, 1)", x.set(1, 1), 0);
        due.is("now(6)", x.now(6), 9);
        due.is("now(7)", x.now(7), 1);
        due.is("set(0, 10)", x.set(0, 10), BAD);
        due.is("set(1, 2)", x.set(1, 2), BAD);
        due.is("set(0, 4)", x.set(0, 4), 9);
        due.is("set(1, 0)", x.set(1, 0), 1);
        due.is("set(0, 0)", x.set(0, 0), 4);
        due.is("set(0, 0)", x.set(0, 0), 0);
        due.is("no change of cost", x.count(2), 0);
    }

    private static void cost() {
        due.of("promise 9");
        OneLamp x = new OneLamp();
        int[][] refused = {{-1, 0}, {10, 0}, {0, -1}, {0, 10}, {9, 10}, {Due.LOW, 1}, {Due.HIGH, 1}, {0, Due.LOW}};
        for (int[] pair : refused) {
            due.is("cost(" + pair[0] + ", " + pair[1] + ")", x.cost(pair[0], pair[1]), BAD);
        }
        due.is("count(2)", x.count(2), 0);
        due.is("cost(0, 9)", x.cost(0, 9), 1);
        due.is("cost(9, 0)", x.cost(9, 0), 1);
        due.is("cost(0, 3)", x.cost(0, 3), 9);
        due.is("cost(0, 3)", x.cost(0, 3), 3);
        due.is("cost(9, 2)", x.cost(9, 2), 0);
        due.is("lamp(0, 0)", x.lamp(0, 0), 3);
        due.is("lamp(1, 0)", x.lamp(1, 0), 1);
        due.is("change(0)", x.change(0), 1);
        due.is("now(4)", x.now(4), 3);
        x.cost(0, 8);
        due.is("spent is by the cost as it was", x.now(4), 3);
        x.change(1);
        due.is("now(4)", x.now(4), 4);
        x.change(0);
        due.is("now(4)", x.now(4), 12);
    }

    private static void now() {
        due.of("promise 10");
        OneLamp x = new OneLamp();
        for (int what : new int[] {-1, 8, Due.LOW, Due.HIGH}) {
            due.is("now(" + what + ")", x.now(what), BAD);
        }
        x.lamps(4);
        x.set(0, 1);
        x.set(1, 1);
        x.cost(3, 6);
        Due.change(x, "3210");
        int[] want = {4, 15, 4, 5, 9, 20, 1, 1};
        for (int what = 0; what < 8; what++) {
            due.is("now(" + what + ")", x.now(what), want[what]);
        }
        due.of("least");
        x.cost(0, 9);
        due.is("1 1 6 9", x.now(5), 8 + 4 + 12 + 9);
        x.cost(2, 0);
        x.cost(1, 2);
        due.is("0 2 6 9", x.now(5), 8 + 12 + 9);
        x.lamps(2);
        due.is("2 9", x.now(5), 4 + 9);
        x.lamps(1);
        due.is("9", x.now(5), 9);
        x.lamps(10);
        due.is("0 1 1 1 1 1 1 2 6 9", x.now(5), 256 + 128 + 64 + 32 + 16 + 8 + 2 * 4 + 6 * 2 + 9);
        x.cost(9, 0);
        due.is("0 0 1 1 1 1 1 2 6 9", x.now(5), 128 + 64 + 32 + 16 + 8 + 2 * 4 + 6 * 2 + 9);
        for (int l = 0; l < 10; l++) {
            x.cost(l, 9);
        }
        due.is("nines", x.now(5), 9 * 1023);
        x.bar(3);
        due.is("what is barred doesn't count", x.now(5), 9 * 1023);
    }

    private static void picture() {
        due.of("promise 11");
        OneLamp x = new OneLamp();
        int[][] refused = {{-1, 0}, {8, 0}, {0, -1}, {0, 2}, {8, 1}, {Due.LOW, 0}, {Due.HIGH, 1}, {0, Due.HIGH}};
        for (int[] pair : refused) {
            due.is("picture(" + pair[0] + ", " + pair[1] + ")", x.picture(pair[0], pair[1]), BAD);
        }
        Due.change(x, "02");
        x.bar(1);
        x.bar(6);
        Due.law(x, "p=7");
        int[] had = {1, 1, 0, 0, 0, 1, 0, 0};
        int[] barred = {0, 1, 0, 0, 0, 0, 1, 1};
        for (int p = 0; p < 8; p++) {
            due.is("picture(" + p + ", 0)", x.picture(p, 0), had[p]);
            due.is("picture(" + p + ", 1)", x.picture(p, 1), barred[p]);
        }
        x.lamps(10);
        due.is("picture(1023, 0)", x.picture(1023, 0), 0);
        due.is("picture(1024, 0)", x.picture(1024, 0), BAD);
    }

    private static void lamp() {
        due.of("promise 12");
        OneLamp x = new OneLamp();
        int[][] refused = {{-1, 0}, {3, 0}, {0, -1}, {0, 3}, {3, 1}, {3, 2}, {9, 0}, {Due.LOW, 0}, {Due.HIGH, 2}};
        for (int[] pair : refused) {
            due.is("lamp(" + pair[0] + ", " + pair[1] + ")", x.lamp(pair[0], pair[1]), BAD);
        }
        x.cost(1, 5);
        Due.change(x, "0102");
        int[][] want = {{1, 2, 3}, {5, 1, 2}, {1, 1, 4}};
        for (int l = 0; l < 3; l++) {
            for (int what = 0; what < 3; what++) {
                due.is("lamp(" + l + ", " + what + ")", x.lamp(l, what), want[l][what]);
            }
        }
        due.is("a change that is refused", x.change(2), NOT);
        due.is("lamp(2, 1)", x.lamp(2, 1), 1);
        x.lamps(4);
        x.change(3);
        due.is("lamp(3, 2)", x.lamp(3, 2), 1);
        due.is("lamp(0, 2)", x.lamp(0, 2), NOT);
        due.is("lamp(4, 0)", x.lamp(4, 0), BAD);
        x.begin(0);
        due.is("lamp(3, 2)", x.lamp(3, 2), NOT);
        due.is("lamp(3, 1)", x.lamp(3, 1), 0);
    }
}
