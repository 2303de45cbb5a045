/** Each sentence of Terms 2, and of promises 17 to 19, with its edges and what is beside them. */
final class EdgesTextsTest {
    private static final Due due = new Due();
    private static final int SHUT = Lands.SHUT;
    private static final int GO = Lands.GO;
    private static final int COME = Lands.COME;
    private static final String DIGITS = "0123456789";
    private static final String OPENERS = "!(";
    private static final String COMPARERS = "<=>";
    private static final String JOINERS = "+-*/%&|";

    public static void main(String[] args) {
        quotientsAreCut();
        tapeOfFifty();
        bytesThatGoOn();
        bytesBehindParts();
        numbersOfFour();
        namesOfUses();
        noBlanks();
        fiveOpenAtOnce();
        binding();
        intsThatWrap();
        dividing();
        oneOrZero();
        allIsWorkedOut();
        faults();
        shutUse();
        goUse();
        comeUse();
        feed();
        text();
        textOfNoUse();
        textOfAFault();
        law();
        due.end();
    }

    /** A TEXT's answer, of a new object. */
    private static int read(int use, String text) {
        return Due.text(new EmptyLand(), use, text);
    }

    private static void fault(int use, String text, int fault) {
        due.is("TEXT of " + use + " " + text, read(use, text), -10 - fault);
    }

    private static void goes(int use, String text) {
        due.is("TEXT of " + use + " " + text, read(use, text), 1);
    }

    /** The TEXT gives a number, and neither the one below nor the one above. */
    private static void gives(String text, int u, int want) {
        EmptyLand x = new EmptyLand();
        due.is("TEXT " + text, Due.text(x, SHUT, "(" + text + ")=l"), 1);
        due.is(text + " with " + u, x.law(SHUT, u, want, 0), 1);
        due.is(text + " with " + u + ", not one less", x.law(SHUT, u, want - 1, 0), 0);
        due.is(text + " with " + u + ", not one more", x.law(SHUT, u, want + 1, 0), 0);
    }

    private static void quotientsAreCut() {
        due.says(0, "Quotients are cut.");
        gives("7/2", 0, 3);
        gives("(0-7)/2", 0, -3);
        gives("(0-1)/2", 0, 0);
        gives("1/2", 0, 0);
        gives("2/2", 0, 1);
    }

    private static void tapeOfFifty() {
        due.says(0, "2. TEXTS are read from THE TAPE (bytes, at most 50)");
        EmptyLand x = new EmptyLand();
        Due.feed(x, "1+1+1+1+1+1+1+1+1+1+1+1+1+1+1+1+1+1+1+1+1+1+1+1+1");
        due.is("49 bytes", x.count(5), 49);
        due.is("two more", x.feed(0x3131, 2), Due.FULL);
        due.is("one more", x.feed('2', 1), 50);
        due.is("a 51st", x.feed('2', 1), Due.FULL);
        due.is("a TEXT of 50 bytes", x.text(GO), 1);
        due.is("all of it", x.law(GO, 0, 0, 0), 24 + 12);
        // Each byte is a NAME or a sign of its own.
        due.is("50 parts", Due.text(x, GO, "!s" + "+w".repeat(24)), 1);
        due.is("all of them", x.law(GO, 0, 2, 0), 49);
        due.is("25 to wait for", Due.text(x, GO, "w" + "+w*w".repeat(12) + "+"), -60);
    }

    /** Behind a start of a TEXT go on just these bytes of all 256. */
    private static void goesOn(int use, String start, String with) {
        for (int b = 0; b < 256; b++) {
            EmptyLand x = new EmptyLand();
            Due.feed(x, start);
            x.feed(b, 1);
            boolean isFault = x.text(use) == -10 - start.length();
            due.is(start + " and byte " + b, isFault ? 0 : 1, with.indexOf(b) >= 0 ? 1 : 0);
        }
    }

    private static void bytesThatGoOn() {
        due.says(0, "T: A { | A }. A: B { & B }. B: S, or S < S, S = S, S > S. S: P { + P, - P }. P: Q { * Q, / Q, % Q }. "
            + "Q: a NUMBER of 1 to 4 digits, a NAME, ! Q, ( T ).");
        String shut = DIGITS + "ulcy" + OPENERS;
        goesOn(SHUT, "", shut);
        goesOn(GO, "", DIGITS + "swn" + OPENERS);
        goesOn(COME, "", DIGITS + "wn" + OPENERS);
        for (String sign : (JOINERS + COMPARERS).split("")) {
            goesOn(SHUT, "u" + sign, shut);
        }
        goesOn(SHUT, "(", shut);
        goesOn(SHUT, "!", shut);
        goesOn(SHUT, "!(!(", shut);
    }

    private static void bytesBehindParts() {
        due.says(0, "B: S, or S < S, S = S, S > S. S: P { + P, - P }. P: Q { * Q, / Q, % Q }.");
        String all = JOINERS + COMPARERS;
        goesOn(SHUT, "u", all);
        goesOn(SHUT, "!u", all);
        goesOn(SHUT, "(u)", all);
        goesOn(SHUT, "(u", all + ")");
        goesOn(SHUT, "(u<l", JOINERS + ")");
        goesOn(SHUT, "(u<l)", all);
        goesOn(SHUT, "u<(l=c)", JOINERS);
        goesOn(SHUT, "u*u+u%l-(c)", all);
        for (String sign : COMPARERS.split("")) {
            goesOn(SHUT, "u" + sign + "l", JOINERS);
            goesOn(SHUT, "u" + sign + "l+c*y", JOINERS);
            goesOn(SHUT, "u" + sign + "l&c", all);
            goesOn(SHUT, "u" + sign + "l|c", all);
        }
    }

    private static void numbersOfFour() {
        due.says(0, "Q: a NUMBER of 1 to 4 digits");
        goesOn(SHUT, "1", DIGITS + JOINERS + COMPARERS);
        goesOn(SHUT, "12", DIGITS + JOINERS + COMPARERS);
        goesOn(SHUT, "123", DIGITS + JOINERS + COMPARERS);
        goesOn(SHUT, "1234", JOINERS + COMPARERS);
        goesOn(SHUT, "0000", JOINERS + COMPARERS);
        goesOn(SHUT, "(9999", JOINERS + COMPARERS + ")");
        goesOn(SHUT, "u<9999", JOINERS);
        gives("0", 0, 0);
        gives("9999", 0, 9999);
        gives("0009", 0, 9);
        gives("1000", 0, 1000);
        gives("1+9999", 0, 10000);
    }

    private static void namesOfUses() {
        due.says(0, "a NAME, ! Q, ( T ).");
        String[] names = {"ulcy", "swn", "wn"};
        for (int use = 0; use < 3; use++) {
            for (char name = 'A'; name <= 'z'; name++) {
                boolean is = names[use].indexOf(name) >= 0;
                due.is("NAME " + name + " of " + use, read(use, "" + name), is ? 1 : -10);
            }
        }
    }

    private static void noBlanks() {
        due.says(0, "No blanks.");
        fault(SHUT, " u", 0);
        fault(SHUT, "u ", 1);
        fault(SHUT, "u +l", 1);
        fault(SHUT, "u+ l", 2);
        fault(SHUT, "( u)", 1);
        fault(SHUT, "1 2", 1);
        fault(SHUT, "u\n", 1);
    }

    private static void fiveOpenAtOnce() {
        due.says(0, "At most 5 of ! and ( are open at once.");
        String parts = DIGITS + "ulcy";
        goesOn(SHUT, "((((", parts + OPENERS);
        goesOn(SHUT, "(((((", parts);
        goesOn(SHUT, "!!!!", parts + OPENERS);
        goesOn(SHUT, "!!!!!", parts);
        goesOn(SHUT, "(!(!(", parts);
        goesOn(SHUT, "!(!(", parts + OPENERS);
        goesOn(SHUT, "(((((u", JOINERS + COMPARERS + ")");
        goesOn(SHUT, "(((((u)))))", JOINERS + COMPARERS);
        goesOn(SHUT, "((((!u", JOINERS + COMPARERS + ")");
        goesOn(SHUT, "((((!u+", parts + OPENERS);
        goesOn(SHUT, "((((!", parts);
        goesOn(SHUT, "(((((u)+", parts + OPENERS);
        goesOn(SHUT, "(((((u)+(", parts);
        goesOn(SHUT, "!!!!!u+", parts + OPENERS);
        goesOn(SHUT, "!(u)+((((", parts + OPENERS);
        goesOn(SHUT, "!((u))+(((((", parts);
        goes(SHUT, "(((((1)))))+(((((2)))))");
        goes(SHUT, "!!!!!1<!!!!!2");
        fault(SHUT, "((((((1))))))", 5);
        fault(SHUT, "!!!!!!1", 5);
    }

    private static void binding() {
        due.says(0, "T: A { | A }. A: B { & B }.");
        gives("1|0&0", 0, 1);
        gives("0&0|1", 0, 1);
        gives("0&1<0", 0, 0);
        gives("1|1<1", 0, 1);
        gives("2<3&3<4", 0, 1);
        gives("1+1<1+2", 0, 1);
        gives("2+3*4-6/3", 0, 12);
        gives("9-3-2", 0, 4);
        gives("9-3+2", 0, 8);
        gives("24/4/3", 0, 2);
        gives("24/4*3", 0, 18);
        gives("24%9*2", 0, 12);
        gives("2*24%9", 0, 3);
        gives("!0*5", 0, 5);
        gives("!(0*5)", 0, 1);
        gives("!u+u", 7, 7);
        gives("1-(2-3)", 0, 2);
    }

    private static void intsThatWrap() {
        due.says(0, "Ints that wrap;");
        gives("u+1", Due.MAX, Due.MIN);
        gives("u-1", Due.MIN, Due.MAX);
        gives("u+1", Due.MAX - 1, Due.MAX);
        gives("u*2", 1 << 30, Due.MIN);
        gives("u*2", (1 << 30) - 1, Due.MAX - 1);
        gives("u*u", 46341, -2147479015);
        gives("u*u", 46340, 2147395600);
        gives("0-u", Due.MIN, Due.MIN);
    }

    private static void dividing() {
        due.says(0, "/ cut, % the rest that it leaves, both by 0 are 0;");
        gives("7/u", 2, 3);
        gives("7/u", -2, -3);
        gives("7%u", 2, 1);
        gives("7%u", -2, 1);
        gives("(0-7)/u", 2, -3);
        gives("(0-7)%u", 2, -1);
        gives("(0-7)/u", -2, 3);
        gives("(0-7)%u", -2, -1);
        gives("7/u", 0, 0);
        gives("7%u", 0, 0);
        gives("0/u", 0, 0);
        gives("0%u", 0, 0);
        gives("7/u", 1, 7);
        gives("7%u", 1, 0);
        gives("7/u", -1, -7);
        gives("u/(0-1)", Due.MIN, Due.MIN);
        gives("u%(0-1)", Due.MIN, 0);
        gives("u/(0-1)", Due.MIN + 1, Due.MAX);
        gives("u/0+5", 9, 5);
    }

    private static void oneOrZero() {
        due.says(0, "| & < = > ! are 1 or 0, what is not 0 being true;");
        int[] numbers = {0, 1, -1, 2, Due.MIN, Due.MAX};
        for (int a : numbers) {
            gives("u|0", a, a != 0 ? 1 : 0);
            gives("0|u", a, a != 0 ? 1 : 0);
            gives("u|2", a, 1);
            gives("u&4", a, a != 0 ? 1 : 0);
            gives("4&u", a, a != 0 ? 1 : 0);
            gives("u&0", a, 0);
            gives("!u", a, a == 0 ? 1 : 0);
            gives("!!u", a, a != 0 ? 1 : 0);
            gives("u<1", a, a < 1 ? 1 : 0);
            gives("u=1", a, a == 1 ? 1 : 0);
            gives("u>1", a, a > 1 ? 1 : 0);
            gives("1<u", a, 1 < a ? 1 : 0);
            gives("1>u", a, 1 > a ? 1 : 0);
        }
        gives("(3<4)+(4=4)+(5>4)+!0+(1|1)+(1&1)", 0, 6);
        gives("5", 0, 5);
    }

    private static void allIsWorkedOut() {
        due.says(0, "all is worked out.");
        gives("1|1/0", 0, 1);
        gives("0&1/0", 0, 0);
        gives("0|u%0", 3, 0);
        gives("1|(0|(1|(0|1)))", 0, 1);
        // What is left of the sign and what is right of it both count, in their order.
        gives("u-1|0", 1, 0);
        gives("9-(u|1)*2", 5, 7);
    }

    private static void faults() {
        due.says(0, "FAULT: the place of the first byte with which no TEXT, however long, goes on; how many there are, "
            + "if it ends too early.");
        fault(SHUT, "", 0);
        fault(SHUT, "?", 0);
        fault(SHUT, "u?", 1);
        fault(SHUT, "u?+?", 1);
        fault(SHUT, "u+", 2);
        fault(SHUT, "u+?", 2);
        fault(SHUT, "(u", 2);
        fault(SHUT, "(u+l", 4);
        fault(SHUT, "(u))", 3);
        fault(SHUT, "u<l<c", 3);
        fault(SHUT, "u<", 2);
        fault(SHUT, "!", 1);
        fault(SHUT, "12345", 4);
        // A TEXT that starts so would be longer than THE TAPE: that is no FAULT before its end.
        String most = "u+".repeat(24);
        fault(SHUT, most + "u+", 50);
        fault(SHUT, most + "((", 50);
        fault(SHUT, most + "u?", 49);
        goes(SHUT, most + "12");
    }

    private static void shutUse() {
        due.says(0, "USES: 0 SHUT, NAMES u USERS, l LEAST, c COST, y YEAR; without a TEXT u < l.");
        EmptyLand x = Lands.still(0, 60, 0, 0);
        x.thing(10, 5, 60, 0);
        due.is("as many as LEAST", x.left(1, 2), 1);
        x.become(0, 0, 59);
        due.is("one less", x.left(1, 2), 0);
        String[] good = {"u=59", "l=60", "c=5", "y=0", "u=59&l=60&c=5&y=0"};
        String[] bad = {"u=60", "l=59", "c=6", "y=1", "u<0|l<0|c<0|y<0"};
        for (int i = 0; i < good.length; i++) {
            Due.text(x, SHUT, good[i]);
            due.is(good[i], x.left(1, 2), 0);
            Due.text(x, SHUT, bad[i]);
            due.is(bad[i], x.left(1, 2), 1);
        }
        Due.text(x, SHUT, "y=39");
        due.is("YEARS 0 to 38", x.left(39, 2), 1);
        due.is("YEAR 39", x.left(40, 2), 0);
    }

    private static void goUse() {
        due.says(0, "1 GO (of 100), NAMES s SORT, w COMFORT, n all PEOPLE of the VILLAGE; held within 0 to 100; "
            + "without (3 - s) * 4 - w, held, too.");
        EmptyLand x = new EmptyLand();
        int[] first = {12, 8, 4};
        for (int sort = 0; sort < 3; sort++) {
            for (int w = 0; w <= 13; w++) {
                due.is("without: " + sort + ", " + w, x.law(GO, sort, w, 5), Math.max(0, first[sort] - w));
            }
        }
        due.is("without, 100", x.law(GO, 0, -88, 0), 100);
        due.is("without, 101", x.law(GO, 0, -89, 0), 100);
        due.is("without, 99", x.law(GO, 0, -87, 0), 99);
        due.is("without, of another SORT", x.law(GO, -22, 0, 0), 100);
        due.is("without, far below", x.law(GO, 0, Due.MAX, 0), 0);
        due.is("without, as an int it wraps", x.law(GO, 0, Due.MIN, 0), 0);
        due.is("without, as an int it is the most", x.law(GO, 0, Due.MIN + 13, 0), 100);
        Due.text(x, GO, "n");
        int[] numbers = {-1, 0, 1, 99, 100, 101, Due.MIN, Due.MAX};
        int[] held = {0, 0, 1, 99, 100, 100, 0, 100};
        for (int i = 0; i < numbers.length; i++) {
            due.is("held " + numbers[i], x.law(GO, 0, 0, numbers[i]), held[i]);
        }
        EmptyLand y = Lands.still(0, 100, 100, 100);
        y.thing(0, 0, 0, 0);
        Due.text(y, GO, "s*10+(w=1)+(n=300)");
        y.years(1);
        due.are("by SORT, COMFORT, PEOPLE", Lands.sorts(y, 0), 98, 88, 78);
    }

    private static void comeUse() {
        due.says(0, "2 COME (of 100), NAMES w COMFORT, n; held within 0 to 20; without 0.");
        EmptyLand x = new EmptyLand();
        due.is("without", x.law(COME, 20, 20, 20), 0);
        Due.text(x, COME, "n");
        int[] numbers = {-1, 0, 1, 19, 20, 21, Due.MIN, Due.MAX};
        int[] held = {0, 0, 1, 19, 20, 20, 0, 20};
        for (int i = 0; i < numbers.length; i++) {
            due.is("held " + numbers[i], x.law(COME, 0, numbers[i], 0), held[i]);
        }
        EmptyLand y = Lands.still(0, 100, 100, 100);
        due.is("without: none comes", y.then(1, 0, 3), 300);
        y.thing(20, 0, 0, 0);
        Due.text(y, COME, "w*2+(n=300)");
        due.is("by COMFORT, PEOPLE", y.then(1, 0, 1), 121);
    }

    private static void feed() {
        due.says(17, "The n lowest bytes (1 .. 8) of a word, the lowest first, come to THE TAPE: how many there are. BEYOND. FULL.");
        EmptyLand x = new EmptyLand();
        due.areErrors("n", Due.BEYOND, x.feed(-1L, 0), x.feed(-1L, 9), x.feed(-1L, -1), x.feed(-1L, Due.MIN), x.feed(-1L, Due.MAX));
        due.is("none came", x.count(5), 0);
        // "1+1+1+12" by one word.
        due.is("8", x.feed(0x32312B312B312B31L, 8), 8);
        due.is("all, the lowest first", x.text(GO), 1);
        due.is("1+1+1+12", x.law(GO, 0, 0, 0), 15);
        due.is("1", x.feed(0x32312B312B312B37L, 1), 1);
        due.is("the lowest alone", x.text(GO), 1);
        due.is("7", x.law(GO, 0, 0, 0), 7);
        due.is("a word below 0", x.feed(0xFFFFFFFFFFFFFF38L, 1), 1);
        due.is("another behind it", x.feed('9', 1), 2);
        due.is("89", x.text(GO) * 1000 + x.law(GO, 0, 0, 0), 1089);
        feedUpToFull();
    }

    private static void feedUpToFull() {
        for (int n = 1; n <= 8; n++) {
            EmptyLand x = new EmptyLand();
            Due.feed(x, "1".repeat(50 - n));
            due.is("up to 50", x.feed(0, n), 50);
            EmptyLand y = new EmptyLand();
            Due.feed(y, "1".repeat(51 - n));
            due.is("up to 51", y.feed(0, n), Due.FULL);
            due.is("none came", y.count(5), 51 - n);
            due.is("BEYOND first", y.feed(0, 9), Due.BEYOND);
        }
    }

    private static void text() {
        due.says(18, "THE TAPE, which is empty then, is the TEXT of a USE (0 to 2), in place of one ahead: 1.");
        for (int use = 0; use < 3; use++) {
            EmptyLand x = new EmptyLand();
            due.is("a TEXT", Due.text(x, use, "1"), 1);
            due.is("THE TAPE is empty", x.count(5), 0);
            due.is("its law", x.law(use, 0, 0, 0), 1);
            due.is("another", Due.text(x, use, "0"), 1);
            due.is("in its place", x.law(use, 0, 0, 0), 0);
            for (int other = 0; other < 3; other++) {
                int without = other == GO ? 12 : 0;
                due.is("others have none", x.law(other, 0, 0, 0), other == use ? 0 : without);
            }
        }
    }

    private static void textOfNoUse() {
        due.says(18, "BEYOND (THE TAPE stays).");
        EmptyLand x = new EmptyLand();
        Due.feed(x, "19");
        due.areErrors("USE", Due.BEYOND, x.text(-1), x.text(3), x.text(Due.MIN), x.text(Due.MAX));
        due.is("THE TAPE stays", x.count(5), 2);
        due.is("and is a TEXT", x.text(2), 1);
        due.is("its bytes stay", x.law(COME, 0, 0, 0), 19);
        due.is("though it is empty", x.text(3), Due.BEYOND);
    }

    private static void textOfAFault() {
        due.says(18, "-10 less the FAULT (no ERROR; the one ahead stays; THE TAPE is empty, too).");
        for (int use = 0; use < 3; use++) {
            EmptyLand x = new EmptyLand();
            Due.text(x, use, "1");
            due.is("FAULT 0", Due.text(x, use, "?"), -10);
            due.is("THE TAPE is empty", x.count(5), 0);
            due.is("FAULT 1", Due.text(x, use, "0?"), -11);
            due.is("FAULT 0 of none", x.text(use), -10);
            due.is("FAULT 50", Due.text(x, use, "0+".repeat(25)), -60);
            due.is("the one ahead stays", x.law(use, 0, 0, 0), 1);
            for (int k = 1; k <= 5; k++) {
                due.is("no ERROR", x.told(k), 0);
            }
        }
        EmptyLand y = new EmptyLand();
        Due.text(y, GO, "?");
        due.is("none ahead stays none", y.law(GO, 0, 0, 0), 12);
    }

    private static void law() {
        due.says(19, "What a USE gives with its NAMES in order as a, b, c (SHUT: 1 if it isn't 0, else 0, its fourth NAME being 0; "
            + "of COME c isn't looked at). BEYOND.");
        EmptyLand x = Lands.upTo(new EmptyLand(), 7);
        due.is("SHUT without", x.law(SHUT, Due.MIN, Due.MAX, 0), 1);
        due.is("SHUT without", x.law(SHUT, Due.MAX, Due.MIN, 0), 0);
        Due.text(x, SHUT, "u+l*2+c*3+y*100");
        due.is("below 0 isn't 0", x.law(SHUT, -1, 0, 0), 1);
        due.is("0", x.law(SHUT, 1, 1, -1), 0);
        due.is("above 1 isn't 0", x.law(SHUT, 1, 1, 1), 1);
        Due.text(x, SHUT, "y");
        due.is("its fourth NAME is 0", x.law(SHUT, 5, 5, 5), 0);
        Due.text(x, GO, "s*9+w*3+n");
        due.is("GO in order", x.law(GO, 2, 1, 5), 26);
        Due.text(x, COME, "w*3+n");
        due.is("COME in order", x.law(COME, 4, 5, 77), 17);
        due.is("c isn't looked at", x.law(COME, 4, 5, Due.MIN), 17);
        due.areErrors("USE", Due.BEYOND, x.law(-1, 0, 0, 0), x.law(3, 0, 0, 0), x.law(Due.MIN, 0, 0, 0));
    }
}
