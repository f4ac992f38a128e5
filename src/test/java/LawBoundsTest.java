/** The bounds that the document names for THE LAW: its text, what can stand where, its numbers, what it comes to. */
public final class LawBoundsTest {
    private static final String LETTERS = "lfbhpt";
    private static final String VALUES = "dwykrmacoin";
    private static final String DIGITS = "0123456789";
    private static final String FACTORS = DIGITS + VALUES + "[";
    private static final String BETWEEN = "+-*/%";

    private LawBoundsTest() {
    }

    public static void main(String[] args) {
        textOf240Bytes();
        emptyThenOrAsItWas();
        whatCanStand();
        theEnd();
        noBlanks();
        sixthDigit();
        seventeenthClause();
        seventhOpen();
        firstFromTheLeft();
        laidBounds();
        strikeBounds();
        badBounds();
        broodBounds();
        sellBounds();
        workBounds();
        firstThatHolds();
        whatHolds();
        wrapAround();
        dividedByNothing();
        asMuchAsMatters();
        notToldIsNothing();
        kindAsItWasLast();
        daysAndDaysAgo();
        Checks.end("LawBoundsTest");
    }

    private static void due(String what, long got, long want) {
        Checks.due(what, got, want);
    }

    private static int read(String text) {
        return Checks.law(new EggTown(), text);
    }

    private static String repeat(String text, int times) {
        return text.repeat(times);
    }

    // "THE LAW: a TEXT of at most 240 bytes", "(1 to 240; empty then)"
    private static void textOf240Bytes() {
        String at240 = "l" + repeat("1+", 116) + "11(1=1)";
        due("240 bytes", read(at240), 1);
        due("239 bytes", read("l" + repeat("1+", 116) + "1(1=1)"), 1);
        EggTown x = new EggTown();
        Checks.feed(x, Checks.bytes(at240 + "a"));
        due("241 bytes", x.law(241), -1);
        due("the tape stays", x.count(6), 260);
        due("the first 240 of 260", x.law(240), 1);
        due("a fault at the 240th byte", read(at240.substring(0, 239) + "("), -1239);
        due("the end of 240 bytes", read(at240.substring(0, 239) + "1"), -1240);
        due("many & in 240 bytes", read("l1(" + repeat("1=1&", 58) + "1=1)"), 1);
        due("many | in 240 bytes", read("l1(" + repeat("1=1|", 58) + "1=1)"), 1);
        due("one byte", read("l"), -1001);
    }

    // "(1 to 240; empty then)", "a FAULT: ... (the one before stays)", "NONE: ... (the tape stays)"
    private static void emptyThenOrAsItWas() {
        EggTown x = Towns.town("l77(1=1);b5(1=1)");
        Checks.feed(x, Checks.bytes("l9(1=1)and a rest that is longer than one feed is"));
        due("only the first n bytes", x.law(7), 1);
        due("empty then", x.count(6), 0);
        due("a fault", Checks.law(x, "l8(1=1);"), -1008);
        due("empty behind a fault", x.count(6), 0);
        due("clauses of the one before", x.count(5), 1);
        x.days(1);
        due("the one before lays", x.egg(0, 0), 9);
        due("a fault in the last clause", Checks.law(x, "l8(1=1);b1(1=1);l3(1=1)x"), -1023);
        x.days(1);
        due("the one before lays still", x.egg(1, 0), 9);
        due("in place of the one before", Checks.law(x, "b5(1=1)"), 1);
        x.days(1);
        due("nothing of the one before", x.egg(2, 0), 0);
    }

    private static long howMany(char sign, String text) {
        return text.chars().filter(c -> c == sign).count();
    }

    /** Behind a text of which nothing is wrong as yet: of all bytes just these can stand. */
    private static void stands(String begin, String can) {
        for (int sign = 0; sign < 256; sign++) {
            EggTown x = new EggTown();
            int[] bytes = Checks.bytes(begin + "x");
            bytes[begin.length()] = sign;
            Checks.feed(x, bytes);
            int got = x.law(bytes.length);
            boolean isOne = can.indexOf(sign) >= 0;
            boolean whole = isOne && sign == ')' && howMany('(', begin) == howMany(')', begin) + 1;
            int due = whole ? 1 : -1000 - begin.length() - (isOne ? 1 : 0);
            due("sign " + sign + " behind " + begin, got, due);
        }
    }

    // "FAULTS, the first from the left: 1 what can't stand there"
    private static void whatCanStand() {
        stands("", LETTERS);
        stands("l", FACTORS);
        stands("l5", DIGITS + BETWEEN + "(");
        stands("ld", BETWEEN + "(");
        stands("l1234", DIGITS + BETWEEN + "(");
        stands("l5+", FACTORS);
        stands("l5*", FACTORS);
        stands("l[", FACTORS);
        stands("l[5", DIGITS + BETWEEN + "]");
        stands("l[d", BETWEEN + "]");
        stands("l[5]", BETWEEN + "(");
        stands("l5(", FACTORS + "!(");
        stands("l5(!", FACTORS + "!(");
        stands("l5((", FACTORS + "!(");
        stands("l5(1", DIGITS + BETWEEN + "<>=");
        stands("l5(d", BETWEEN + "<>=");
        stands("l5([1", DIGITS + BETWEEN + "]");
        stands("l5([1]", BETWEEN + "<>=");
        stands("l5(1=", FACTORS);
        stands("l5(1<", FACTORS);
        stands("l5(1>d", BETWEEN + "&|)");
        stands("l5(1=1", DIGITS + BETWEEN + "&|)");
        stands("l5(1=[1]", BETWEEN + "&|)");
        stands("l5(1=1&", FACTORS + "!(");
        stands("l5(1=1|", FACTORS + "!(");
        stands("l5((1=1", DIGITS + BETWEEN + "&|)");
        stands("l5((1=1)", "&|)");
        stands("l5(!(1=1)", "&|)");
        stands("l5(1=1)", ";");
        stands("l5(1=1);", LETTERS);
    }

    // "(the end, too)"
    private static void theEnd() {
        String text = "l5+[d*2](!(k=1|y>2)&[r]=3);tm(1=1)";
        due("the whole text", read(text), 2);
        for (int n = 1; n < text.length(); n++) {
            boolean isClause = text.charAt(n) == ';';
            due("the first " + n, read(text.substring(0, n)), isClause ? 1 : -1000 - n);
        }
    }

    // "no blanks"
    private static void noBlanks() {
        String text = "l5+[d*2](!(k=1|y>2)&[r]=3);tm(1=1)";
        for (int at = 0; at <= text.length(); at++) {
            due("a blank at " + at, read(text.substring(0, at) + " " + text.substring(at)), -1000 - at);
        }
    }

    // "a number of one to five digits", "2 a sixth digit, at it"
    private static void sixthDigit() {
        due("one digit", lays("7", "1=1"), 7);
        due("five digits", lays("99999-99990", "1=1"), 9);
        due("five digits that begin with 0", lays("00009", "1=1"), 9);
        due("a sixth in the E", read("l123456(1=1)"), -2006);
        due("a sixth, all of them 0", read("l000000(1=1)"), -2006);
        due("a sixth in [ ]", read("l[100000](1=1)"), -2007);
        due("a sixth behind +", read("l1+100000(1=1)"), -2008);
        due("a sixth in the C, left", read("l1(100000=1)"), -2008);
        due("a sixth in the C, right", read("l1(1=100000)"), -2010);
        due("a sixth as the last byte", read("l123456"), -2006);
        due("a seventh is no other fault", read("l1234567"), -2006);
        due("five digits twice", read("l12345*12345(12345=12345)"), 1);
        due("five digits, then the end", read("l12345"), -1006);
    }

    // "CLAUSES (16 at most)", "4 a 17th CLAUSE, at its letter (if that can stand there)"
    private static void seventeenthClause() {
        String sixteen = repeat("l1(1=1);", 15) + "l1(1=1)";
        due("15", read(repeat("l1(1=1);", 14) + "l1(1=1)"), 15);
        due("16", read(sixteen), 16);
        for (char letter : LETTERS.toCharArray()) {
            due("a 17th of " + letter, read(sixteen + ";" + letter), -4128);
            due("a whole 17th of " + letter, read(sixteen + ";" + letter + "1(1=1)"), -4128);
        }
        for (char sign : "dwykrmacoin05([!;x ".toCharArray()) {
            due("a 17th that can't stand there " + sign, read(sixteen + ";" + sign), -1128);
        }
        due("a ; and no 17th", read(sixteen + ";"), -1128);
        due("no ; behind 16", read(sixteen + "l1(1=1)"), -1127);
        due("a fault in the 16th", read(sixteen.substring(0, 126) + "x"), -1126);
        EggTown x = new EggTown();
        due("16 of another letter each", Checks.law(x, sixteen), 16);
        due("a 17th", Checks.law(x, sixteen + ";l1(1=1)"), -4128);
        due("the 16 stay", x.count(5), 16);
    }

    // "5 a seventh of ( [ ! that are open in one another, at it (the ( of the CLAUSE counts; a ! is open till its PIECE
    // ends; the E of a CLAUSE stands ahead of it)"
    private static void seventhOpen() {
        due("six [ in the E", read("l[[[[[[1]]]]]](1=1)"), 1);
        due("a seventh [ in the E", read("l[[[[[[[1]]]]]]](1=1)"), -5007);
        due("a seventh [ as the last byte", read("l[[[[[[["), -5007);
        due("six [ behind six", read("l[[[[[[1]]]]]]+[[[[[[1]]]]]](1=1)"), 1);
        due("a seventh behind six", read("l[[[[[[1]]]]]]+[[[[[[[1"), -5021);
        due("the E's are not open in the C", read("l[[[[[[1]]]]]]([[[[[1]]]]]=1)"), 1);
        due("five [ in the C", read("l1([[[[[1]]]]]=[[[[[1]]]]])"), 1);
        due("a sixth [ in the C, left", read("l1([[[[[[1]]]]]]=1)"), -5008);
        due("a sixth [ in the C, right", read("l1(1=[[[[[[1]]]]]])"), -5010);
        due("five ( in the C", read("l1((((((1=1))))))"), 1);
        due("a sixth ( in the C", read("l1(((((((1=1)))))))"), -5008);
        due("five ! in the C", read("l1(!!!!!1=1)"), 1);
        due("a sixth ! in the C", read("l1(!!!!!!1=1)"), -5008);
        due("a ! is open in its E's, left", read("l1(!!!!![1]=1)"), -5008);
        due("a ! is open in its E's, right", read("l1(!!!!!1=[1])"), -5010);
        due("a ! is open in its (C)", read("l1(!!!!!(1=1))"), -5008);
        due("four ! and one [", read("l1(!!!![1]=[1])"), 1);
        due("four ! and one (", read("l1(!!!!(1=1))"), 1);
        due("a ! ends with its PIECE, &", read("l1(!!!!!1=1&!!!!!1=1)"), 1);
        due("a ! ends with its PIECE, |", read("l1(!!!!!1=1|!!!!!1=1)"), 1);
        due("a ! ends with its (C)", read("l1(!(!(1=1))&!(!([1]=1)))"), 1);
        due("all kinds, six", read("l1((!(![1]=1)))"), 1);
        due("all kinds, seven", read("l1((!(![[1]]=1)))"), -5008);
        due("closed ones count no more", read("l1((1=1)&(1=1)&(1=1)&(1=1)&(1=1)&(1=1)&(1=1))"), 1);
        due("in the next CLAUSE anew", read("l1((((((1=1))))));l1((((((1=1))))))"), 2);
        due("a seventh that can't stand there", read("l[[[[[[("), -1007);
        due("a ! that can't stand there", read("l[[[[[[!"), -1007);
        due("a ) that can't stand there", read("l1((((((1=1)))))))"), -1017);
    }

    // "FAULTS, the first from the left"
    private static void firstFromTheLeft() {
        due("2 ahead of 1", read("l123456x"), -2006);
        due("1 ahead of 2", read("lx123456"), -1001);
        due("5 ahead of 2", read("l[[[[[[[123456"), -5007);
        due("2 ahead of 5", read("l123456+[[[[[[["), -2006);
        due("1 ahead of 4", read(repeat("l1(1=1);", 15) + "l1(1=);l"), -1125);
        due("4 ahead of all that is behind it", read(repeat("l1(1=1);", 16) + "l123456"), -4128);
    }

    /** What l comes to on day 10 for hen 2 of kind 3 that person 5 owns. */
    private static int lays(String e, String c) {
        EggTown x = Towns.onDay(10);
        x.person(5);
        x.hen(2, 3, 5);
        Checks.law(x, "l" + e + "(" + c + ")");
        x.days(1);
        return x.egg(0, 0);
    }

    private static boolean holds(String c) {
        return lays("1", c) == 1;
    }

    // "l MINUTES that are laid (0 to 240)", "(beyond its bounds the bound; none: 0)"
    private static void laidBounds() {
        due("0", lays("0", "1=1"), 0);
        due("239", lays("239", "1=1"), 239);
        due("240", lays("240", "1=1"), 240);
        due("241", lays("241", "1=1"), 240);
        due("99999", lays("99999", "1=1"), 240);
        due("below 0", lays("0-1", "1=1"), 0);
        due("far below 0", lays("0-99999", "1=1"), 0);
        due("none", lays("5", "1=2"), 0);
        EggTown x = Towns.town("b5(1=1)");
        due("no CLAUSE of l: an EGG all the same", x.days(1), 1);
        due("of 0 MINUTES", x.egg(0, 0), 0);
        due("no LAW at all", Towns.town("").days(1), 1);
    }

    // "f tenths that a HEN strikes (0 to 10)"
    private static void strikeBounds() {
        due("0: never", Towns.town("f0(1=1)").tried(48, 3), 0);
        due("below 0: never", Towns.town("f0-5(1=1)").tried(48, 3), 0);
        due("none: never", Towns.town("f10(1=2)").tried(48, 3), 0);
        due("10: each day", Towns.town("f10(1=1)").tried(60, 3), 60);
        due("above 10: each day", Towns.town("f11(1=1)").tried(60, 3), 60);
        for (int draw = 0; draw < 10; draw++) {
            for (int f = 0; f <= 10; f++) {
                EggTown x = Towns.town("f" + f + "(1=1)");
                x.seed(Towns.seedOf(draw));
                due("a DRAW of " + draw + " below " + f, x.tried(1, 3), draw < f ? 1 : 0);
            }
        }
    }

    // "b behind how many DAYS an egg is BAD (0 to 99; 0: never)"
    private static void badBounds() {
        String[] laws = {"b0(1=1)", "b0-9(1=1)", "b5(1=2)", "b1(1=1)", "b98(1=1)", "b99(1=1)", "b100(1=1)",
            "b99999(1=1)"};
        int[] days = {-2, -2, -2, 4, 101, 102, 102, 102};
        EggTown x = Towns.onDay(3);
        x.person(0);
        x.hen(0, 0, 0);
        x.days(1);
        for (int k = 0; k < laws.length; k++) {
            Checks.law(x, laws[k]);
            due("the first DAY on which it is BAD by " + laws[k], x.egg(0, 6), days[k]);
        }
        EggTown never = Towns.town("l5(1=1)");
        never.days(1);
        never.days(60);
        never.days(60);
        due("never", never.count(4), 0);
    }

    // "h MINUTES more by brooding (0 to 60)"
    private static void broodBounds() {
        String[] laws = {"h0(1=1)", "h0-1(1=1)", "h5(1=2)", "h1(1=1)", "h59(1=1)", "h60(1=1)", "h61(1=1)",
            "h99999(1=1)"};
        int[] more = {0, 0, 0, 1, 59, 60, 60, 60};
        for (int k = 0; k < laws.length; k++) {
            EggTown x = Towns.withEggs(laws[k], 100);
            due("brooded by " + laws[k], Checks.acts(x, "0*"), 1);
            due("MINUTES by " + laws[k], x.egg(0, 0), 100 + more[k]);
            due("BROODED by " + laws[k], x.egg(0, 4), 1);
        }
    }

    private static boolean keeps(String law, int worth) {
        EggTown x = new EggTown();
        Checks.law(x, law);
        Checks.feed(x, worth >> 8, worth & 255, worth >> 8, worth & 255);
        return x.hoards(2, 1) == 0;
    }

    // "p what each who sells has (0 to 999)"
    private static void sellBounds() {
        Checks.due("999 and 998", keeps("p999(1=1)", 998), false);
        Checks.due("999 and 999: as much is no gain", keeps("p999(1=1)", 999), true);
        Checks.due("1000 is 999", keeps("p1000(1=1)", 999), true);
        Checks.due("1000 is 999, not less", keeps("p1000(1=1)", 998), false);
        Checks.due("below 0 is 0", keeps("p0-5(1=1)", 0), true);
        Checks.due("1 is above 0", keeps("p1(1=1)", 0), false);
        Checks.due("none is 0", keeps("p5(1=2)", 0), true);
        Checks.due("no LAW is 0", keeps("x", 0), true);
    }

    // "t MINUTES that an EGG is worth to a WORK (0 to 240)"
    private static void workBounds() {
        String[] laws = {"t0(1=1)", "t0-1(1=1)", "t5(1=2)", "t1(1=1)", "t239(1=1)", "t240(1=1)", "t241(1=1)",
            "t99999(1=1)"};
        int[] done = {0, 0, 0, 1, 239, 240, 240, 240};
        for (int k = 0; k < laws.length; k++) {
            EggTown x = Towns.withEggs(laws[k], 100);
            x.work(0, 999, 0, 0);
            due("broken by " + laws[k], Checks.acts(x, "0!0"), 1);
            due("done by " + laws[k], x.workIs(0, 1), done[k]);
            due("LIVED by " + laws[k], x.personIs(0, 0), 100);
        }
    }

    // "of the first one of a letter whose C holds the E"
    private static void firstThatHolds() {
        due("the first of two that hold", lays("3(1=1);l4", "1=1"), 3);
        due("the second, if the first does not", lays("3(1=2);l4", "1=1"), 4);
        due("other letters between", lays("3(1=2);b9(1=1);f0(1=1);l4", "1=1"), 4);
        due("the 16th", lays("3(1=2)" + repeat(";l5(1=2)", 14) + ";l4", "1=1"), 4);
        due("none", lays("3(1=2);l4", "1=2"), 0);
        due("the first below its bound is not passed by", lays("0-3(1=1);l4", "1=1"), 0);
    }

    // "E, one of < > =, and E", "!PIECE", "PARTS with a | between two, one of which must hold; a PART: PIECES with an &
    // between two, all of which must"
    private static void whatHolds() {
        String[] signs = {"<", ">", "="};
        for (int left = 1; left <= 3; left++) {
            boolean[] want = {left < 2, left > 2, left == 2};
            for (int k = 0; k < 3; k++) {
                String piece = left + signs[k] + "2";
                Checks.due(piece, holds(piece), want[k]);
                Checks.due("!" + piece, holds("!" + piece), !want[k]);
                Checks.due("!!" + piece, holds("!!" + piece), want[k]);
                Checks.due("!(" + piece + ")", holds("!(" + piece + ")"), !want[k]);
            }
        }
        for (int bits = 0; bits < 16; bits++) {
            boolean a = (bits & 1) != 0;
            boolean b = (bits & 2) != 0;
            boolean c = (bits & 4) != 0;
            boolean d = (bits & 8) != 0;
            Checks.due("a&b|c&d", ofFour("a&b|c&d", bits), a && b || c && d);
            Checks.due("a|b&c|d", ofFour("a|b&c|d", bits), a || b && c || d);
            Checks.due("a|b|c|d", ofFour("a|b|c|d", bits), bits != 0);
            Checks.due("a&b&c&d", ofFour("a&b&c&d", bits), bits == 15);
            Checks.due("(a|b)&(c|d)", ofFour("(a|b)&(c|d)", bits), (a || b) && (c || d));
            Checks.due("!(a|b)&!(c&d)", ofFour("!(a|b)&!(c&d)", bits), !(a || b) && !(c && d));
            Checks.due("!a&b|!(c|!d)", ofFour("!a&b|!(c|!d)", bits), !a && b || !(c || !d));
            Checks.due("(a|(b&(c|d)))", ofFour("(a|(b&(c|d)))", bits), a || b && (c || d));
        }
    }

    private static boolean ofFour(String c, int bits) {
        String text = c;
        for (int k = 0; k < 4; k++) {
            text = text.replace("abcd".substring(k, k + 1), (bits >> k & 1) != 0 ? "1=1" : "1=2");
        }
        return holds(text);
    }

    // "All is reckoned with 32 bits, as the machine does"
    private static void wrapAround() {
        String least = "[32768*65536]";
        Checks.due("2 to the 31st is below 0", holds("32768*65536<0"), true);
        Checks.due("one less is above 0", holds("32768*65536-1>0"), true);
        Checks.due("the greatest and 1", holds("32768*65536-1+1<0"), true);
        Checks.due("2 to the 32nd is 0", holds("65536*65536=0"), true);
        Checks.due("99999 times 99999", holds("99999*99999=14098*99999+" + (1409865409 - 14098 * 99999)), true);
        Checks.due("the least by -1 is the least", holds(least + "/[0-1]=" + least), true);
        Checks.due("the least by -1, the rest", holds(least + "%[0-1]=0"), true);
        Checks.due("0 less the least", holds("0-" + least + "=" + least), true);
        Checks.due("compared as they are, no difference", holds(least + "<1"), true);
        Checks.due("compared as they are, no difference, >", holds("1>" + least), true);
        Checks.due("a quotient goes to 0", holds("[0-7]/2=0-3"), true);
        Checks.due("a quotient by below 0", holds("7/[0-2]=0-3"), true);
        Checks.due("a rest below 0", holds("[0-7]%3=0-1"), true);
        Checks.due("a rest by below 0", holds("7%[0-3]=1"), true);
        due("a bound behind the wrap, below", lays("32768*65536", "1=1"), 0);
        due("a bound behind the wrap, above", lays("32768*65536-1", "1=1"), 240);
        due("it wraps on the way, too", lays("65536*65536+7", "1=1"), 7);
    }

    // "what is divided by 0 is REFUSED: then a C does not hold, an E is 0"
    private static void dividedByNothing() {
        due("an E", lays("5/0", "1=1"), 0);
        due("an E's rest", lays("5%0", "1=1"), 0);
        due("the whole E", lays("7+5/0", "1=1"), 0);
        due("the whole E, behind it, too", lays("5/0+7", "1=1"), 0);
        due("in [ ]", lays("7+[5/[1-1]]", "1=1"), 0);
        due("0 by 0", lays("7+0/0", "1=1"), 0);
        due("times 0", lays("7+5/0*0", "1=1"), 0);
        due("no next CLAUSE: the C holds", lays("5/0(1=1);l9", "1=1"), 0);
        due("0 divided is fine", lays("7+0/5", "1=1"), 7);
        due("by a letter that is 0", lays("7+5/m", "1=1"), 0);
        Checks.due("a C", holds("1/0=0"), false);
        Checks.due("a C, right", holds("0=1/0"), false);
        Checks.due("a C's rest", holds("1%0=0"), false);
        Checks.due("with <", holds("1/0<9"), false);
        Checks.due("with >", holds("9>1/0"), false);
        Checks.due("with !", holds("!1/0=0"), false);
        Checks.due("with ! ( )", holds("!(1/0=0)"), false);
        Checks.due("with | behind", holds("1/0=0|1=1"), false);
        Checks.due("behind |", holds("1=2|1/0=0"), false);
        Checks.due("behind | in ( )", holds("(1=2|1/0=0)|1=1"), false);
        Checks.due("behind &", holds("1=1&1/0=0"), false);
        due("then the next CLAUSE", lays("3(1/0=0);l4", "1=1"), 4);
    }

    // "Of a C as much is asked, from the left, as matters."
    private static void asMuchAsMatters() {
        Checks.due("behind one that holds, |", holds("1=1|1/0=0"), true);
        Checks.due("two behind it", holds("1=1|1/0=0|1/0=0"), true);
        Checks.due("a PART behind it", holds("1=1|1/0=0&1=1"), true);
        Checks.due("behind one that does not, &", holds("1=2&1/0=0"), false);
        Checks.due("behind it a PART that holds", holds("1=2&1/0=0|1=1"), true);
        Checks.due("two behind it, a PART that holds", holds("1=2&1/0=0&1/0=0|1=1"), true);
        Checks.due("a PART that holds ends it", holds("1=1&1=1|1/0=0"), true);
        Checks.due("in ( )", holds("(1=1|1/0=0)&1=1"), true);
        Checks.due("with !, &", holds("!(1=2&1/0=0)"), true);
        Checks.due("with !, |", holds("!(1=1|1/0=0)|1=1"), true);
        Checks.due("( ) that does not hold, &", holds("(1=2|1=2)&1/0=0|1=1"), true);
        Checks.due("( ) that holds, |", holds("(1=2|1=1)|1/0=0"), true);
        Checks.due("what matters is asked", holds("1=2|1/0=0|1=1"), false);
        Checks.due("what matters is asked, &", holds("1=1&1/0=0|1=1"), false);
    }

    private static int worth(String t) {
        EggTown x = Towns.onDay(9);
        for (int p = 0; p < 6; p++) {
            x.person(p);
        }
        x.hen(2, 3, 5);
        Checks.law(x, "l50(1=1);h1(1=1);t" + t + "(1=1)");
        x.days(2);
        x.work(6, 999, 0, 0);
        Checks.acts(x, "0*,0*,0>4,0!6");
        return x.workIs(6, 1);
    }

    // "a FACTOR: ... a letter", "(Where they are not told they are 0.)"
    private static void notToldIsNothing() {
        String[] inT = {"d", "w", "y", "k", "r", "m", "a", "c", "o", "i", "n"};
        int[] wantT = {11, 4, 2, 3, 0, 52, 2, 2, 4, 6, 0};
        int[] wantL = {10, 3, 2, 3, 0, 0, 0, 0, 5, 0, 0};
        for (int k = 0; k < inT.length; k++) {
            due("t by " + inT[k], worth("7+" + inT[k]), 7 + wantT[k]);
            if (!inT[k].equals("r")) {
                due("l by " + inT[k], lays("7+" + inT[k], "1=1"), 7 + wantL[k]);
            }
        }
        int[] wantB = {11, 4, 2, 3, 0, 50, 2, 0, 5, 0, 0};
        int[] wantH = {11, 4, 2, 3, 0, 50, 2, 0, 5, 0, 0};
        for (int k = 0; k < inT.length; k++) {
            EggTown x = Towns.onDay(9);
            x.person(5);
            x.hen(2, 3, 5);
            Checks.law(x, "l50(1=1)");
            x.days(2);
            Checks.law(x, "b7+" + inT[k] + "(1=1);h7+" + inT[k] + "(1=1)");
            due("b by " + inT[k], x.egg(0, 6), 9 + 7 + wantB[k]);
            Checks.acts(x, "0*");
            due("h by " + inT[k], x.egg(0, 0), 50 + Math.min(60, 7 + wantH[k]));
        }
        int[] wantP = {8, 1, 0, 0, 0, 0, 0, 0, 0, 0, 1};
        for (int k = 0; k < inT.length; k++) {
            EggTown x = Towns.onDay(8);
            Checks.law(x, "p7+" + inT[k] + "(n<2)");
            for (int keep = 6 + wantP[k]; keep <= 7 + wantP[k]; keep++) {
                Checks.feed(x, 0, keep, 3, 231);
                due("p by " + inT[k] + " and " + keep, x.hoards(2, 1), keep == 6 + wantP[k] ? 1 : 0);
            }
        }
        for (String letter : new String[] {"r", "m", "a", "c", "i", "n"}) {
            EggTown x = Towns.town("f10*" + letter + "(1=1)");
            due("f by " + letter, x.tried(48, 3), 0);
            Checks.law(x, "f10(" + letter + "=0)");
            due("f if " + letter + " is 0", x.tried(48, 3), 48);
        }
    }

    // "d THE DAY, w THE DAY modulo 7", "a how many DAYS ago it was laid"
    private static void daysAndDaysAgo() {
        EggTown x = Towns.town("l10*w+d(1=1)");
        x.days(22);
        for (int day = 0; day < 22; day++) {
            due("w and d on day " + day, x.egg(day, 0), 10 * (day % 7) + day);
        }
        EggTown late = Towns.onDay(9998);
        late.person(0);
        late.hen(0, 0, 0);
        Checks.law(late, "ld-9900(d=9998&w=2)");
        late.days(1);
        due("d and w on the last but one", late.egg(0, 0), 98);
        due("0 days ago: too young for b 1", Towns.town("b1(a=0)").tried(20, 2), 0);
        due("1 day ago", Towns.town("b1(a=1)").tried(20, 2), 19);
        due("2 days ago", Towns.town("b1(a=2)").tried(20, 2), 18);
    }

    // "k its KIND (as it is, or was last)"
    private static void kindAsItWasLast() {
        EggTown x = Towns.town("l50(1=1);b10+k(1=1)");
        x.days(1);
        due("as it is", x.egg(0, 6), 11);
        x.fox(0);
        due("as it was last", x.egg(0, 6), 11);
        x.hen(0, 3, 1);
        due("as it is anew", x.egg(0, 6), 13);
        x.keep();
        x.hen(0, 2, 1);
        x.fox(0);
        due("as it was last, anew", x.egg(0, 6), 12);
        x.undo();
        due("undone", x.egg(0, 6), 13);
    }
}
