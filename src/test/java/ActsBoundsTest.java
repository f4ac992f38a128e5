/** The bounds that the document names for ACTS: their text, what can stand where, when a LINE can be, what it does. */
public final class ActsBoundsTest {
    private static final String DIGITS = "0123456789";
    private static final String SIGNS = ">!.*";

    private ActsBoundsTest() {
    }

    public static void main(String[] args) {
        textOf140Bytes();
        emptyThen();
        whatCanStand();
        theEnd();
        numbersAbove47();
        digitsAbove7();
        twentyFifthLine();
        ninthEgg();
        toldAlready();
        firstFromTheLeft();
        nothingIsDoneByAFault();
        allWhole();
        givenToOthers();
        forWorks();
        broodedNineTimes();
        minutesAtMost();
        needsAtMost();
        brokenForNothing();
        oneBehindTheOther();
        firstLineThatCant();
        Checks.end("ActsBoundsTest");
    }

    private static void due(String what, long got, long want) {
        Checks.due(what, got, want);
    }

    /** acts() and judged() must find the same fault; without one none of these lines can be: there are no eggs. */
    private static void read(String text, int want) {
        due("acts " + text, Checks.acts(new EggTown(), text), want);
        due("judged " + text, Checks.judged(new EggTown(), text), want);
    }

    private static String lines(int n) {
        return "3.,".repeat(n - 1) + "3.";
    }

    // "ACTS: a TEXT of at most 140 bytes", "(1 to 140; ...)"
    private static void textOf140Bytes() {
        String handful = "(10+11+12+13+14+15+16+17).";
        read((handful + ",").repeat(5) + "2>1,3", -1140);
        read((handful + ",").repeat(5) + "12>1.", -1139);
        String right = (handful + ",").repeat(5) + "(7)>1";
        due("a right one's length", right.length(), 140);
        read(right, 0);
        EggTown x = new EggTown();
        Checks.feed(x, Checks.bytes(right + "a"));
        due("acts of 141 bytes", x.acts(141), -1);
        due("judged of 141 bytes", x.judged(141), -1);
        due("the tape stays", x.count(6), 160);
        due("the first 140 of 160", x.acts(140), 0);
        due("empty then", x.count(6), 0);
    }

    // "(1 to 140; empty then)", "(the tape stays)"
    private static void emptyThen() {
        EggTown x = Towns.withEggs("", 10, 10);
        Checks.feed(x, Checks.bytes("0.,1.,and what stands behind it"));
        due("no n", x.acts(0), -1);
        due("no n, judged", x.judged(0), -1);
        due("it stays", x.count(6), 40);
        due("only the first n", x.judged(5), 2);
        due("empty behind judged", x.count(6), 0);
        Checks.feed(x, Checks.bytes("0.,1.,and what stands behind it"));
        due("only the first n", x.acts(2), 1);
        due("empty behind acts", x.count(6), 0);
        due("1 is whole", x.egg(1, 5), 0);
        due("a fault", Checks.acts(x, "1.,"), -1003);
        due("empty behind a fault", x.count(6), 0);
        due("a judged fault", Checks.judged(x, "1.,"), -1003);
        due("empty behind a judged fault", x.count(6), 0);
    }

    /** Behind a text of which nothing is wrong as yet: of all bytes just these can stand. */
    private static void stands(String begin, String can) {
        for (int sign = 0; sign < 256; sign++) {
            EggTown x = new EggTown();
            int[] bytes = Checks.bytes(begin + "x");
            bytes[begin.length()] = sign;
            Checks.feed(x, bytes);
            boolean isOne = can.indexOf(sign) >= 0;
            boolean isDigit = sign >= '0' && sign <= '9';
            boolean ends = begin.endsWith(">") || begin.endsWith("!") ? isDigit : sign == '.' || sign == '*';
            int want = isOne && ends ? 0 : -1000 - begin.length() - (isOne ? 1 : 0);
            due("sign " + sign + " behind " + begin, x.acts(bytes.length), want);
        }
    }

    // "1 what can't stand there"
    private static void whatCanStand() {
        stands("3", DIGITS + SIGNS);
        stands("33", SIGNS);
        stands("03", SIGNS);
        stands("3.", ",");
        stands("3*", ",");
        stands("3>2", ",");
        stands("3!2", ",");
        stands("3.,", DIGITS + "(");
        stands("3>2,", DIGITS + "(");
        stands("(", DIGITS);
        stands("(3", DIGITS + "+)");
        stands("(33", "+)");
        stands("(3+2", DIGITS + "+)");
        stands("(3)", SIGNS);
        stands("(3+4)", SIGNS);
        stands("(3+4).", ",");
        stands("(3+4)>2", ",");
        for (int sign = 0; sign < 256; sign++) {
            EggTown x = new EggTown();
            Checks.feed(x, sign);
            boolean can = sign >= '0' && sign <= '9' || sign == '(';
            due("sign " + sign + " as the first", x.acts(1), can ? -1001 : -1000);
            for (char act : ">!".toCharArray()) {
                Checks.feed(x, '3', act, sign);
                int want = sign >= '0' && sign <= '7' ? 0 : sign == '8' || sign == '9' ? -3002 : -1002;
                due("sign " + sign + " behind 3" + act, x.acts(3), want);
            }
        }
    }

    // "(the end, too)"
    private static void theEnd() {
        String text = "(3+14+5)>2,16!1,7.,(8)*";
        read(text, 0);
        for (int n = 1; n < text.length(); n++) {
            boolean isWhole = text.charAt(n) == ',';
            read(text.substring(0, n), isWhole ? 0 : -1000 - n);
        }
    }

    // "3 a number above 47, at its first digit (asked when its digits end, behind two at the latest)"
    private static void numbersAbove47() {
        read("47.", 0);
        read("48.", -3000);
        read("50.", -3000);
        read("99.", -3000);
        read("9.", 0);
        read("09.", 0);
        read("00.", 0);
        read("48", -3000);
        read("480.", -3000);
        read("48x", -3000);
        read("470.", -1002);
        read("000.", -1002);
        read("3.,48.", -3003);
        read("(48).", -3001);
        read("(3+48).", -3003);
        read("(3+48", -3003);
        read("(3+488", -3003);
        read("(48+48).", -3001);
    }

    // "a digit above 7, at it"
    private static void digitsAbove7() {
        for (char sign : ">!".toCharArray()) {
            read("3" + sign + "0", 0);
            read("3" + sign + "7", 0);
            read("3" + sign + "8", -3002);
            read("3" + sign + "9", -3002);
            read("3" + sign + "80", -3002);
            read("3" + sign + "77", -1003);
            read("3" + sign, -1002);
            read("3" + sign + ",", -1002);
            read("(3+4)" + sign + "8", -3006);
            read("3.,13" + sign + "8", -3006);
        }
    }

    // "LINES (24 at most)", "4 a 25th LINE, at its first byte (if that can stand there)"
    private static void twentyFifthLine() {
        read(lines(23), 0);
        read(lines(24), 0);
        EggTown x = Towns.withLikeEggs("", 48, 5);
        String all = "0*,1*,2*,3*,4*,5*,6*,7*,8*,9*,10*,11*,12*,13*,14*,15*,16*,17*,18*,19*,20*,21*,22*,23*";
        due("24 LINES are done", Checks.acts(x, all), 24);
        due("24 LINES can be", Checks.judged(x, all), 24);
        for (char sign : (DIGITS + "(").toCharArray()) {
            read(lines(24) + "," + sign, -4072);
        }
        for (char sign : ",.>!*+)x ".toCharArray()) {
            read(lines(24) + "," + sign, -1072);
        }
        read(lines(24) + ",", -1072);
        read(lines(24) + ",3.", -4072);
        read(lines(24) + ",99.", -4072);
        read(lines(24) + "3.", -1071);
        read(lines(23) + ",3x", -1070);
    }

    // "(one, or some in ( ) with a + between two, 8 at most)", "6 a ninth EGG of a ( ), at its first digit"
    private static void ninthEgg() {
        String eight = "(0+1+2+3+4+5+6+7";
        read(eight + ").", 0);
        read("(7).", 0);
        read(eight + "+8).", -6017);
        read(eight + "+8", -6017);
        read(eight + "+0).", -6017);
        read(eight + "+48).", -6017);
        read(eight + "+", -1017);
        read(eight + "+).", -1017);
        read(eight + "++", -1017);
        read(eight + "+(", -1017);
        read(eight + ").," + eight + ").", 0);
        read(eight + ").," + eight + "+8).", -6036);
        read("(10+11+12+13+14+15+16+17+18).", -6025);
        EggTown x = Towns.withLikeEggs("", 9, 5);
        due("eight at once", Checks.acts(x, "(0+1+2+3+4+5+6+7)."), 1);
        due("all eight", x.count(3), 8);
    }

    // "7 an EGG that is told already in that ( ), at its first digit (asked behind its digits)"
    private static void toldAlready() {
        read("(3+3).", -7003);
        read("(3+3", -7003);
        read("(3+3x", -7003);
        read("(3+30).", 0);
        read("(30+3).", 0);
        read("(3+03).", -7003);
        read("(03+3).", -7004);
        read("(03+03).", -7004);
        read("(33+33).", -7004);
        read("(3+4+5+3).", -7007);
        read("(0+1+2+3+4+5+6+0).", -7015);
        read("(3+4).,(3+4).", 0);
        read("3.,3.", 0);
        read("(3+4).,(4+3+4).", -7012);
    }

    // "FAULTS, the first from the left" of acts
    private static void firstFromTheLeft() {
        read("(3+3+48).", -7003);
        read("(48+3+3).", -3001);
        read("3>8x", -3002);
        read("3x>8", -1001);
        read("(3+3)>9", -7003);
        read("x48", -1000);
    }

    // "a FAULT: as above (nothing is done)"
    private static void nothingIsDoneByAFault() {
        String[] wrong = {"0.,1*,0>8", "0.,1*,48.", "0.,1*,", "0.,1*,(2+2).", "0.,1*,(0+1+2+3+4+5+6+7+8).", "0.,1*x"};
        for (String text : wrong) {
            EggTown x = Towns.withEggs("h5(1=1)", 10, 20, 30);
            Checks.due("a fault in " + text, Checks.acts(x, text) <= -1000, true);
            due("none is broken by " + text, x.count(3), 0);
            due("none is brooded by " + text, x.egg(1, 4), 0);
            due("nothing is lived by " + text, x.personIs(0, 0), 0);
        }
    }

    /** Egg 0 is broken, 1 is bad, 2 and 3 are whole, 4 is not laid; a work and a second person are told. */
    private static EggTown mixed() {
        EggTown x = Towns.withEggs("", 10, 20, 30, 40);
        Checks.acts(x, "0.");
        Checks.law(x, "b1(m=20);tm(1=1);h5(1=1);f10(1=1)");
        x.days(1);
        x.work(0, 50, 1, 9);
        return x;
    }

    // "A LINE can be, if all its EGGS are WHOLE (laid)"
    private static void allWhole() {
        for (String sign : new String[] {">1", "!0", ".", "*"}) {
            for (int egg : new int[] {0, 1, 4, 47}) {
                EggTown x = mixed();
                due("egg " + egg + sign, Checks.acts(x, egg + sign), 0);
                due("judged " + egg + sign, Checks.judged(x, egg + sign), 0);
                due("ahead of a whole one " + egg + sign, Checks.acts(x, "(" + egg + "+2)" + sign), 0);
                due("behind a whole one " + egg + sign, Checks.acts(x, "(2+" + egg + ")" + sign), 0);
                Checks.due("nothing is done", java.util.Arrays.equals(Towns.all(x), Towns.all(mixed())), true);
            }
            due("whole ones" + sign, Checks.acts(mixed(), "(2+3)" + sign), 1);
        }
        EggTown none = new EggTown();
        due("no eggs at all", Checks.acts(none, "0.,1*,47."), 0);
    }

    // "for > the PERSON is told and owns none of them"
    private static void givenToOthers() {
        EggTown x = mixed();
        due("not told", Checks.acts(x, "2>7"), 0);
        due("its own", Checks.acts(x, "2>0"), 0);
        due("one of them its own, the last", Checks.acts(x, "2>1,(3+2)>1"), 1);
        due("one of them its own, the first", Checks.acts(x, "(2+3)>1"), 0);
        due("3 is still of 0", x.egg(3, 3), 0);
        due("back", Checks.acts(x, "2>0"), 1);
        due("given by 0", x.personIs(0, 3), 30);
        due("given to 0", x.personIs(0, 2), 30);
        due("both ways, by 1", x.personIs(1, 3), 30);
        x.person(7);
        due("told by now", Checks.acts(x, "(2+3)>7"), 1);
        due("of two owners", Checks.acts(x, "2>0,(2+3)>1"), 2);
        due("given by 7", x.personIs(7, 3), 70);
        due("an egg of 0 minutes", Checks.acts(Towns.withEggs("", 0), "0>1"), 1);
    }

    // "for ! the WORK is told and not done yet"
    private static void forWorks() {
        EggTown x = mixed();
        due("not told", Checks.acts(x, "2!1"), 0);
        due("told", Checks.acts(x, "2!0"), 1);
        x.work(2, 40, 0, 0);
        due("just what it needs", Checks.acts(x, "3!2"), 1);
        due("done", x.workIs(2, 4), 1);
        x = mixed();
        x.work(0, 30, 0, 0);
        due("done by the first, not by the second LINE", Checks.acts(x, "2!0,3!0"), 1);
        due("3 is whole", x.egg(3, 5), 0);
        x.work(0, 30, 0, 0);
        due("told anew it is not done", Checks.acts(x, "3!0"), 1);
        x = mixed();
        x.work(0, 31, 0, 0);
        due("not done by 30 of 31", Checks.acts(x, "2!0,3!0"), 2);
        x = mixed();
        Checks.law(x, "t0(1=1)");
        due("worth nothing: broken all the same", Checks.acts(x, "2!0"), 1);
        due("nothing of it is done", x.workIs(0, 1), 0);
        due("but lived", x.personIs(0, 0), 40);
    }

    // "for * none was BROODED 9 times"
    private static void broodedNineTimes() {
        EggTown x = mixed();
        due("eight times", Checks.acts(x, "2*,2*,2*,2*,2*,2*,2*,2*"), 8);
        due("a ninth time", Checks.judged(x, "2*,2*"), 1);
        due("a ninth time, with another", Checks.acts(x, "(3+2)*"), 1);
        due("9", x.egg(2, 4), 9);
        due("1", x.egg(3, 4), 1);
        due("no tenth", Checks.acts(x, "2*"), 0);
        due("no tenth, as the last", Checks.acts(x, "(3+2)*"), 0);
        due("no tenth, as the first", Checks.acts(x, "(2+3)*"), 0);
        due("9 still", x.egg(2, 4), 9);
        due("1 still", x.egg(3, 4), 1);
        due("no more minutes", x.egg(2, 0), 30 + 9 * 5);
        due("given and broken all the same", Checks.acts(x, "2>1,2."), 2);
    }

    // "its MINUTES are more by h (240 at most)"
    private static void minutesAtMost() {
        int[][] begins = {{239, 1, 240}, {239, 2, 240}, {240, 1, 240}, {240, 60, 240}, {180, 60, 240}, {179, 60, 239},
            {181, 60, 240}, {0, 0, 0}, {0, 60, 60}};
        for (int[] t : begins) {
            EggTown x = Towns.withEggs("h" + t[1] + "(1=1)", t[0]);
            due("brooded", Checks.acts(x, "0*"), 1);
            due(t[0] + " and " + t[1], x.egg(0, 0), t[2]);
            due("once", x.egg(0, 4), 1);
        }
        EggTown x = Towns.withEggs("h10*c+m(1=1)", 7);
        due("h as it is each time", Checks.acts(x, "0*,0*"), 2);
        due("7 more, then 24 more", x.egg(0, 0), 7 + 7 + 24);
    }

    // "t (asked then) is done for the WORK (its needs at most)", "(A WORK that is done by one EGG: the others of the
    // LINE are BROKEN all the same.)"
    private static void needsAtMost() {
        EggTown x = Towns.withEggs("tm(1=1)", 60, 50, 40, 30);
        Checks.acts(x, "1>1");
        x.work(0, 1, 0, 9);
        due("all of the LINE", Checks.acts(x, "(0+1+2)!0"), 1);
        due("its needs at most", x.workIs(0, 1), 1);
        due("three are broken", x.count(3), 3);
        due("0 lived its own", x.personIs(0, 0), 100);
        due("1 lived its own", x.personIs(1, 0), 50);
        x.work(0, 999, 0, 9);
        Checks.acts(x, "3!0");
        due("not all of it", x.workIs(0, 1), 30);
        EggTown y = Towns.withEggs("tm+o(1=1)", 60);
        y.work(0, 100, 0, 9);
        due("t asked then: by another owner", Checks.acts(y, "0>1,0!0"), 2);
        due("61", y.workIs(0, 1), 61);
        EggTown z = Towns.withEggs("tm+c(1=1);h9(1=1)", 60);
        z.work(0, 100, 0, 9);
        due("t asked then: brooded", Checks.acts(z, "0*,0!0"), 2);
        due("70", z.workIs(0, 1), 70);
    }

    // ". the same without a WORK"
    private static void brokenForNothing() {
        EggTown x = Towns.withEggs("tm(1=1)", 0, 240);
        x.work(0, 100, 0, 9);
        due("two", Checks.acts(x, "0.,1."), 2);
        due("lived", x.personIs(0, 0), 240);
        due("no work is done", x.workIs(0, 1), 0);
        due("its minutes stay", x.egg(1, 0), 240);
        due("its owner stays", x.egg(1, 3), 0);
    }

    // "are done, one LINE behind the other, those that can't be are left out: how many were done"
    private static void oneBehindTheOther() {
        EggTown x = Towns.withEggs("", 10, 20);
        due("only what can be", Checks.acts(x, "5.,0.,0.,0*,0>1,1*,7!7,1>1,1>1"), 3);
        due("brooded", x.egg(1, 4), 1);
        due("given", x.egg(1, 3), 1);
        due("none of them", Checks.acts(x, "0.,0*,1>1"), 0);
    }

    // "the first LINE that can't be (0 on); how many there are: all can"
    private static void firstLineThatCant() {
        EggTown x = Towns.withEggs("tm(1=1);h5(1=1)", 10, 20, 30);
        x.work(0, 10, 0, 9);
        due("one LINE, it can", Checks.judged(x, "0."), 1);
        due("one LINE, it can't", Checks.judged(x, "9."), 0);
        due("the last can't", Checks.judged(x, "0.,1.,1."), 2);
        due("the first of two that can't", Checks.judged(x, "0.,0.,1.,0."), 1);
        due("as if those ahead were done", Checks.judged(x, "0>1,0>0,0!0,1!0"), 3);
        due("a brooded egg", Checks.judged(x, "0*,0*,0*,0*,0*,0*,0*,0*,0*,0*"), 9);
        due("nothing is done", x.count(2), 3);
        due("24 LINES, the last can't", Checks.judged(x, "0>1,0>0,".repeat(11) + "0>1,0>1"), 23);
        due("no draws", x.count(7), Towns.xBehind(1, 6));
    }
}
