/** The document's Terms 1, the law's text: a test of its own for each sentence that names a limit. */
public final class EdgesOfTheLawTest {
    private static final int BAD = Due.BAD, FULL = Due.FULL, GOOD = -1;
    private static final String BEGINS = "(!-0123456789plnh", DIGITS = "0123456789", JOINS = "|&<=>+-*/%";
    private static final Due due = new Due("EdgesOfTheLawTest");

    public static void main(String[] args) {
        tapeOf120Bytes();
        bytes();
        linesOneOrMore();
        lineOfOneOrTwo();
        whatCountsIfTheFirstIsNot0();
        levels();
        oneRelation();
        numbers();
        everyNumberOfAPicture();
        oneOperand();
        noBlanks();
        names();
        sixOpen();
        openOfEachOperand();
        intsThatWrap();
        comparedAsInts();
        by0();
        toward0();
        oneOr0();
        allIsWorkedOut();
        firstLineThatCounts();
        nothingOfTheLawAhead();
        faultIsAPlace();
        faultOfEveryByte();
        endsTooEarly();
        withoutAText();
        aFaultLeavesTheLaw();
        due.end();
    }

    /** Where a text has its fault, or GOOD. */
    private static void fault(String text, int place) {
        due.is("law " + text, Due.law(new OneLamp(), text), place == GOOD ? 1 : -100 - place);
    }

    /** Whether a text bars picture 13 of four lamps. */
    private static void bars(String text, int want) {
        OneLamp x = Due.wall(4, "");
        due.is("law " + text, Due.law(x, text), 1);
        due.is(text, x.picture(13, 1), want);
    }

    private static void is(String text, int number) {
        bars("(" + text + ")=" + number, 1);
        bars("(" + text + ")-(" + number + ")", 0);
    }

    private static void tapeOf120Bytes() {
        due.sentence("THE TAPE (at most 120 bytes)");
        OneLamp x = Due.wall(4, "");
        for (int k = 1; k <= 119; k++) {
            due.is("feed, the " + k + "th", x.feed(k % 2 == 0 ? '+' : '0'), k);
        }
        due.is("feed, the 120th", x.feed('7'), 120);
        due.is("feed, the 121st", x.feed('7'), FULL);
        due.is("count(1)", x.count(1), 120);
        due.is("law(), a number of two digits at the end", x.law(), 1);
        due.is("count(1)", x.count(1), 0);
        due.is("07 is not 0", x.picture(0, 1), 1);
        fault("0+".repeat(59) + "00", GOOD);
        fault("0+".repeat(59) + "0q", 119);
        fault("0+".repeat(59) + "0+", 120);
    }

    private static void bytes() {
        due.sentence("A byte (0 .. 255) comes to THE TAPE");
        OneLamp x = new OneLamp();
        due.is("feed(-1)", x.feed(-1), BAD);
        due.is("feed(256)", x.feed(256), BAD);
        due.is("feed(256 + 'p')", x.feed(256 + 'p'), BAD);
        due.is("feed('p' - 256)", x.feed('p' - 256), BAD);
        due.is("feed('p' + 128)", x.feed('p' + 128), 1);
        due.is("law(), not p", x.law(), -100);
        due.is("feed(0)", x.feed(0), 1);
        due.is("feed(255)", x.feed(255), 2);
        due.is("law()", x.law(), -100);
    }

    private static void linesOneOrMore() {
        due.sentence("LINES, one or more, parted by ; .");
        fault("", 0);
        fault(";", 0);
        fault("p", GOOD);
        fault("p;", 2);
        fault(";p", 0);
        fault("p;p", GOOD);
        fault("p;;p", 2);
        fault("p;p;", 4);
        fault("0?0;".repeat(29) + "0?0", GOOD);
        bars("0?1;".repeat(29) + "13=p", 1);
        bars("0?1;".repeat(29) + "12=p", 0);
        fault("p;".repeat(60), 120);
    }

    private static void lineOfOneOrTwo() {
        due.sentence("LINE: E, or E ? E");
        fault("p?l", GOOD);
        fault("?l", 0);
        fault("p?", 2);
        fault("p??l", 2);
        fault("p?l?n", 3);
        fault("p?l;n?h", GOOD);
        fault("p?l;n?h?p", 7);
        fault("(p?l)", 2);
        fault("p?;l", 2);
    }

    private static void whatCountsIfTheFirstIsNot0() {
        due.sentence("(what counts if the first is not 0)");
        bars("1?1;0", 1);
        bars("2?1;0", 1);
        bars("-1?1;0", 1);
        bars("-9999?1;0", 1);
        bars("0?1;0", 0);
        bars("0?0;1", 1);
        bars("1?0;1", 0);
        bars("1?-1", 1);
    }

    private static void levels() {
        due.sentence("E = A { | A }. A = B { & B }. B = S, or S < S, S = S, S > S. S = P { + P, - P }. P = O { * O, / O, % O }.");
        bars("1|0&0", 1);
        bars("0&0|1", 1);
        bars("2&1=1", 1);
        bars("1=1&2", 1);
        bars("4<3+2", 1);
        bars("2+2<4", 0);
        bars("9=3+6", 1);
        bars("3+6>9", 0);
        bars("2+3*4=14", 1);
        bars("2*3+4=10", 1);
        bars("20-6/3=18", 1);
        bars("20-7%4=17", 1);
        bars("9-3-2=4", 1);
        bars("9-3+2=8", 1);
        bars("40/4/2=5", 1);
        bars("40/4*2=20", 1);
        bars("29%10%4=1", 1);
        bars("2*7%5=4", 1);
        for (char join : JOINS.toCharArray()) {
            fault("p" + join, 2);
            fault("p" + join + ")", 2);
            fault("" + join, join == '-' ? 1 : 0);
            fault("p" + join + "l", GOOD);
            fault("p" + join + "-l", GOOD);
            fault("p" + join + "+l", 2);
        }
    }

    private static void oneRelation() {
        due.sentence("B = S, or S < S, S = S, S > S.");
        for (char first : "<=>".toCharArray()) {
            fault("p" + first + "l", GOOD);
            fault("p" + first + "l&n" + first + "h", GOOD);
            fault("p" + first + "l|n" + first + "h", GOOD);
            for (char second : "<=>".toCharArray()) {
                fault("p" + first + "l" + second + "n", 3);
                fault("p" + first + "l+1" + second + "n", 5);
                fault("(p" + first + "l)" + second + "n", GOOD);
                fault("p" + first + "(l" + second + "n)", GOOD);
                fault("p" + first + second + "l", 2);
            }
        }
    }

    private static void numbers() {
        due.sentence("a number (1 to 4 digits)");
        is("7", 7);
        is("42", 42);
        is("503", 503);
        is("9999", 9999);
        is("0042", 42);
        is("0000", 0);
        fault("99999", 4);
        fault("00000", 4);
        fault("p=12345", 6);
        fault("1234+56789", 9);
        fault("(12345)", 5);
        fault("1234p", 4);
        fault("1p", 1);
    }

    private static void everyNumberOfAPicture() {
        due.sentence("O = a number (1 to 4 digits)");
        OneLamp x = Due.wall(10, "");
        for (int number = 0; number < 1024; number++) {
            if (number % 30 == 0) {
                x = Due.wall(10, "");
            }
            due.is("law", Due.law(x, "p=" + number), 1);
            due.is("p=" + number + " of itself", x.picture(number, 1), 1);
            due.is("p=" + number + " of the next", x.picture((number + 1) % 1024, 1), 0);
            due.is("law", Due.law(x, "" + number), 1);
            due.is(number + " of 0", x.picture(0, 1), number == 0 ? 0 : 1);
        }
    }

    private static void oneOperand() {
        due.sentence("O = a number (1 to 4 digits), a NAME, ! O, - O, ( E ).");
        fault("!p", GOOD);
        fault("-p", GOOD);
        fault("(p)", GOOD);
        fault("!", 1);
        fault("-", 1);
        fault("(", 1);
        fault("()", 1);
        fault("!)", 1);
        fault("p)", 1);
        fault("(p))", 3);
        fault("((p)", 4);
        fault("pp", 1);
        fault("p(l)", 1);
        fault("(p)(l)", 3);
        fault("(p)l", 3);
        fault("p!", 1);
        fault("!+p", 1);
    }

    private static void noBlanks() {
        due.sentence("No blanks.");
        String text = "(p<3)?!l;1+2";
        for (String blank : new String[] {" ", "\t", "\n", "\r", "\u0000", "\u00a0"}) {
            for (int place = 0; place <= text.length(); place++) {
                fault(text.substring(0, place) + blank + text.substring(place), place);
            }
        }
        fault("1 2", 1);
    }

    private static void names() {
        due.sentence("NAMES: p the PICTURE, l how many are lit, n LAMPS, h the greatest LAMP that is lit and 1 (0: none).");
        for (int n = 1; n <= 10; n++) {
            int all = (1 << n) - 1;
            isOf(n, 0, 0, 0);
            isOf(n, 1, 1, 1);
            isOf(n, all, n, n);
            isOf(n, 1 << n - 1, 1, n);
            isOf(n, all / 2, n - 1, n - 1);
        }
        for (String other : new String[] {"P", "L", "N", "H", "a", "o", "q", "m", "g", "i", "k"}) {
            fault(other, 0);
            fault("p+" + other, 2);
        }
    }

    private static void isOf(int n, int p, int l, int h) {
        OneLamp x = Due.wall(n, "");
        due.is("law", Due.law(x, "p=" + p + "&l=" + l + "&n=" + n + "&h=" + h), 1);
        due.is(p + " of " + n + " has " + l + " lit, up to " + h, x.picture(p, 1), 1);
    }

    private static void sixOpen() {
        due.sentence("At most 6 of ( ! - ahead of an O are open at once.");
        for (String open : new String[] {"(", "!", "-", "(!", "!-", "-(", "(-!"}) {
            String six = open.repeat(6).substring(0, 6);
            String close = six.replaceAll("[!-]", "").replace('(', ')');
            for (String ahead : new String[] {"", "p?", "0;", "0?1;", "l+", "l=", "l|", "l-", "(p)*"}) {
                fault(ahead + six + "p" + close, GOOD);
                fault(ahead + six + "12" + close, GOOD);
                for (String seventh : new String[] {"(", "!", "-"}) {
                    fault(ahead + six + seventh + "p", ahead.length() + 6);
                }
            }
        }
    }

    private static void openOfEachOperand() {
        due.sentence("are open at once");
        fault("((((((p))))))+((((((l))))))", GOOD);
        fault("------p-------l", GOOD);
        fault("------p--------l", 14);
        fault("!!!!!!p&!!!!!!l", GOOD);
        fault("(((((!p+!l-!n)))))", GOOD);
        fault("(((((!p+!l-!!n)))))", 12);
        fault("((((((p))))))*(p)", GOOD);
        fault("(((((p)+(l)))))", GOOD);
        fault("(((((p)+((l))))))", GOOD);
        fault("(((((p)+(((l)))))))", 10);
        fault("-(-(-(p)-((l))))", GOOD);
        fault("-(-(-(p)-(((l)))))", 11);
    }

    private static void intsThatWrap() {
        due.sentence("Ints that wrap");
        String low = "2048*1024*1024";
        bars(low + "<0", 1);
        bars(low + "-1>0", 1);
        bars("(" + low + "-1)+1<0", 1);
        bars("-(" + low + ")<0", 1);
        bars("-(" + low + ")=" + low, 1);
        bars(low + "*2=0", 1);
        bars("(" + low + "-1)*2=-2", 1);
        bars("4096*1024*1024=0", 1);
        bars("9999*9999*9999*9999%1000=" + 9999 * 9999 * 9999 * 9999 % 1000, 1);
    }

    private static void comparedAsInts() {
        due.sentence("Ints that wrap");
        String low = "2048*1024*1024";
        bars(low + "<1", 1);
        bars(low + ">1", 0);
        bars("1>" + low, 1);
        bars("1<" + low, 0);
        bars(low + "-1>-1", 1);
        bars(low + "-1<-1", 0);
        bars("-1<" + low + "-1", 1);
        bars("-1>" + low + "-1", 0);
    }

    private static void by0() {
        due.sentence("by 0 they give 0");
        for (String a : new String[] {"5", "-5", "0", "1", "2048*1024*1024"}) {
            bars(a + "/0=0", 1);
            bars(a + "%0=0", 1);
            bars(a + "/(1-1)=0", 1);
            bars(a + "%-0=0", 1);
        }
        bars("1/0", 0);
        bars("1%0", 0);
        bars("1/0?1;2%0?1;3", 1);
    }

    private static void toward0() {
        due.sentence("/ and % toward 0");
        bars("7/2=3&7%2=1", 1);
        bars("-7/2=-3&-7%2=-1", 1);
        bars("7/-2=-3&7%-2=1", 1);
        bars("-7/-2=3&-7%-2=-1", 1);
        bars("1/2=0&-1/2=0", 1);
        bars("2048*1024*1024/-1=2048*1024*1024", 1);
        bars("2048*1024*1024%-1=0", 1);
    }

    private static void oneOr0() {
        due.sentence("| & < = > ! give 1, 0");
        String[] not0 = {"1", "2", "-1", "-2", "9999", "2048*1024*1024"};
        for (String a : not0) {
            is(a + "|0", 1);
            is("0|" + a, 1);
            is(a + "&0", 0);
            is("0&" + a, 0);
            is("!(" + a + ")", 0);
            is("!!(" + a + ")", 1);
            is(a + "=" + a, 1);
            is(a + "<" + a, 0);
            is(a + ">" + a, 0);
            for (String b : not0) {
                is(a + "|" + b, 1);
                is(a + "&" + b, 1);
            }
        }
        is("0|0", 0);
        is("0&0", 0);
        is("!0", 1);
        is("3<4", 1);
        is("4<3", 0);
        is("4>3", 1);
        is("3>4", 0);
        is("3=4", 0);
        is("-1<0", 1);
        is("0>-1", 1);
    }

    private static void allIsWorkedOut() {
        due.sentence("all is worked out");
        is("1|5/0", 1);
        is("5/0|1", 1);
        is("0&5%0", 0);
        is("5%0&1", 0);
        is("(1|0)+(0&1)+(0|3)", 2);
        fault("1|q", 2);
        fault("0&q", 2);
        fault("0?q;1", 2);
        fault("1;q", 2);
    }

    private static void firstLineThatCounts() {
        due.sentence("The first LINE without a first E, or whose first E is not 0, counts; none: 0.");
        bars("1;0", 1);
        bars("0;1", 0);
        bars("0?1;1;0", 1);
        bars("0?1;0;1", 0);
        bars("0?1;1?1;0", 1);
        bars("0?1;1?0;1", 0);
        bars("0?0;-3?1;0", 1);
        bars("0?1", 0);
        bars("0?1;0?1;0?1", 0);
        bars("1?0;1?1", 0);
        bars("p=12?0;p=13?1;p=13?0", 1);
    }

    private static void nothingOfTheLawAhead() {
        due.sentence("THE TAPE becomes THE LAW");
        OneLamp x = new OneLamp();
        Due.law(x, "0?0;0?0;0?0;0?0;1");
        due.is("a long one: may()", x.may(), 0);
        Due.law(x, "0?1");
        due.is("a short one: may()", x.may(), 7);
        Due.law(x, "0?0;1-2?p=1;1");
        due.is("a long one: may()", x.may(), 6);
        Due.law(x, "p=2");
        due.is("a short one: may()", x.may(), 5);
    }

    private static void faultIsAPlace() {
        due.sentence("FAULT: the place (from 0) of the first byte with which no TEXT goes on");
        fault("q", 0);
        fault("pq", 1);
        fault("p q", 1);
        fault("qq", 0);
        fault("p=1=2=q", 3);
        fault("p+1;l-2;n*)", 10);
        fault("(p+l)*(n-h))", 11);
        fault("1234567", 4);
    }

    private static void faultOfEveryByte() {
        due.sentence("the first byte with which no TEXT goes on");
        String behind = ";?" + JOINS;
        everyByteBehind("", BEGINS);
        everyByteBehind("p", behind);
        everyByteBehind("1", behind + DIGITS);
        everyByteBehind("123", behind + DIGITS);
        everyByteBehind("1234", behind);
        everyByteBehind("!", BEGINS);
        everyByteBehind("(", BEGINS);
        everyByteBehind("(p", JOINS + ")");
        everyByteBehind("(p<l", "|&+-*/%)");
        everyByteBehind("p<l", ";?|&+-*/%");
        everyByteBehind("p<l&n", behind);
        everyByteBehind("p?l", ";" + JOINS);
        everyByteBehind("p?l;n", behind);
        everyByteBehind("(p)", behind);
        everyByteBehind("p;", BEGINS);
        everyByteBehind("p?", BEGINS);
        everyByteBehind("p*", BEGINS);
        everyByteBehind("((((((", DIGITS + "plnh");
        everyByteBehind("!-(!-(", DIGITS + "plnh");
        everyByteBehind("((((((p))))))", behind);
    }

    /** Texts go on with these bytes alone; behind the others more bytes stand, which must not matter. */
    private static void everyByteBehind(String beginning, String goesOn) {
        for (int letter = 0; letter < 256; letter++) {
            OneLamp x = new OneLamp();
            Due.feed(x, beginning);
            x.feed(letter);
            boolean good = goesOn.indexOf((char) letter) >= 0;
            Due.feed(x, good ? "" : "p~");
            int place = -100 - x.law();
            due.is(letter + " behind " + beginning + ", fault at its place", place == beginning.length() ? 1 : 0, good ? 0 : 1);
        }
    }

    private static void endsTooEarly() {
        due.sentence("the length, if it ends too early");
        for (String text : new String[] {"", "p+", "(", "(p", "((p)", "!", "-", "p?", "p;", "p?l;", "p<", "p|", "((((((", "(1234",
            "p?(", "p=-"}) {
            fault(text, text.length());
        }
    }

    private static void withoutAText() {
        due.sentence("Without a text none.");
        OneLamp x = new OneLamp();
        for (int p = 0; p < 8; p++) {
            due.is("picture(" + p + ", 1)", x.picture(p, 1), 0);
        }
        due.is("law() of nothing", x.law(), -100);
        Due.feed(x, "1");
        due.is("a tape is no law yet: may()", x.may(), 7);
        Due.feed(x, "q");
        due.is("law() of 1q", x.law(), -101);
        due.is("still none: may()", x.may(), 7);
    }

    private static void aFaultLeavesTheLaw() {
        due.sentence("A FAULT empties THE TAPE, THE LAW stays.");
        OneLamp x = new OneLamp();
        Due.law(x, "p=2");
        for (String text : new String[] {"", "p=", "p=3 ", "1;q", "p=3;"}) {
            Due.feed(x, text);
            due.is("law of " + text + " has a fault", x.law() <= -100 ? 1 : 0, 1);
            due.is("behind " + text + ": count(1)", x.count(1), 0);
            due.is("behind " + text + ": may()", x.may(), 5);
            due.is("behind " + text + ": picture(3, 1)", x.picture(3, 1), 0);
        }
        due.is("a good one follows", Due.law(x, "p=1"), 1);
        due.is("may()", x.may(), 6);
    }
}
