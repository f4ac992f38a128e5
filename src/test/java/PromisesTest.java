/** The document's promises, one method each: ordinary calls, the edges it names, wrong calls. */
public final class PromisesTest {
    private static final int NO_THEFT = -1000000000;

    private PromisesTest() {
    }

    public static void main(String[] args) {
        promise1();
        promise2();
        promise3();
        promise4();
        promise5();
        promise6();
        promise7();
        promise8();
        promise8Reckoning();
        promise8Faults();
        promise9();
        promise9Faults();
        promise10();
        promise11();
        promise12();
        promise13();
        promise14();
        promise15();
        promise16();
        promise17();
        promise18();
        promise19();
        promise20();
        promise21();
        promise22();
        promise23();
        promise24();
        promise25();
        promise26();
        promise27();
        promise28And29();
        promise30();
        promise31();
        Checks.end("PromisesTest");
    }

    private static void due(String call, long got, long want) {
        Checks.due(call, got, want);
    }

    private static void due(String call, boolean got, boolean want) {
        Checks.due(call, got, want);
    }

    private static void promise1() {
        EggTown x = new EggTown();
        for (int what = 0; what <= 10; what++) {
            due("new count(" + what + ")", x.count(what), what == 7 ? 1 : 0);
        }
        for (int k = 0; k < 8; k++) {
            due("new personIs", x.personIs(k, 0), -1);
            due("new workIs", x.workIs(k, 0), -1);
            due("new hen", x.count(20 + k), -1);
        }
        due("new egg", x.egg(0, 0), -1);
        due("new undo()", x.undo(), false);
        due("new days(3)", x.days(3), 0);
        due("no hens, no draws", x.count(7), 1);
        due("the day", x.count(0), 3);
    }

    private static void promise2() {
        EggTown x = new EggTown();
        due("person(0)", x.person(0), true);
        due("person(0) again", x.person(0), false);
        due("person(7)", x.person(7), true);
        due("person(8)", x.person(8), false);
        due("person(-1)", x.person(-1), false);
        due("person(min)", x.person(Integer.MIN_VALUE), false);
        due("person(32)", x.person(32), false);
        due("people", x.count(8), 129);
        due("lived", x.personIs(7, 0), 0);
        due("laid", x.personIs(7, 1), 0);
    }

    private static void promise3() {
        EggTown x = new EggTown();
        due("hen, no owner", x.hen(0, 0, 0), false);
        x.person(0);
        x.person(5);
        due("hen(0,0,0)", x.hen(0, 0, 0), true);
        due("hen(7,3,5)", x.hen(7, 3, 5), true);
        due("hen(8,..)", x.hen(8, 0, 0), false);
        due("hen(-1,..)", x.hen(-1, 0, 0), false);
        due("kind 4", x.hen(1, 4, 0), false);
        due("kind -1", x.hen(1, -1, 0), false);
        due("owner 8", x.hen(1, 0, 8), false);
        due("owner -1", x.hen(1, 0, -1), false);
        due("owner not told", x.hen(0, 1, 3), false);
        due("a refused hen changes nothing", x.count(20), 0);
        due("hens", x.count(9), 129);
        due("in place of the one before", x.hen(7, 2, 0), true);
        due("its kind", x.count(27), 2);
        due("its owner", x.count(37), 0);
        due("hens still", x.count(9), 129);
    }

    private static void promise4() {
        EggTown x = Towns.town("l30(1=1);tk(1=1)");
        due("fox(1)", x.fox(1), false);
        due("fox(8)", x.fox(8), false);
        due("fox(-1)", x.fox(-1), false);
        x.days(1);
        due("fox(0)", x.fox(0), true);
        due("fox(0) again", x.fox(0), false);
        due("no hens", x.count(9), 0);
        due("its kind", x.count(20), -1);
        due("none lays", x.days(2), 0);
        due("the egg's hen", x.egg(0, 2), 0);
        x.work(0, 50, 1, 9);
        Checks.acts(x, "0!0");
        due("the kind as it was last", x.workIs(0, 1), 1);
        EggTown y = Towns.town("l30(1=1);tk(1=1)");
        y.days(1);
        y.hen(0, 3, 1);
        y.work(0, 50, 1, 9);
        Checks.acts(y, "0!0");
        due("the kind as it is", y.workIs(0, 1), 3);
        due("the owner stays", y.egg(0, 3), 0);
    }

    private static void promise5() {
        EggTown x = Towns.town("l60(1=1);tm(1=1)");
        due("work", x.work(0, 1, 0, 0), true);
        due("work high", x.work(7, 999, 999, 9999), true);
        due("work(8)", x.work(8, 1, 0, 0), false);
        due("work(-1)", x.work(-1, 1, 0, 0), false);
        due("needs 0", x.work(1, 0, 0, 0), false);
        due("needs 1000", x.work(1, 1000, 0, 0), false);
        due("worth -1", x.work(1, 1, -1, 0), false);
        due("worth 1000", x.work(1, 1, 1000, 0), false);
        due("by -1", x.work(1, 1, 0, -1), false);
        due("by 10000", x.work(1, 1, 0, 10000), false);
        due("works", x.count(10), 129);
        x.days(1);
        Checks.acts(x, "0!7");
        due("done", x.workIs(7, 1), 60);
        due("refused", x.work(7, 0, 0, 0), false);
        due("still done", x.workIs(7, 1), 60);
        due("anew", x.work(7, 100, 3, 4), true);
        due("nothing is done", x.workIs(7, 1), 0);
        due("needs", x.workIs(7, 0), 100);
        due("worth", x.workIs(7, 2), 3);
        due("by", x.workIs(7, 3), 4);
    }

    private static void promise6() {
        EggTown x = Towns.withEggs("", 10, 20, 30, 40, 50);
        due("clean, all whole", x.clean(), 0);
        due("acts", Checks.acts(x, "0.,2*,3."), 3);
        due("clean", x.clean(), 2);
        due("laid", x.count(1), 3);
        due("whole", x.count(2), 3);
        due("broken", x.count(3), 0);
        due("egg 0", x.egg(0, 0), 20);
        due("egg 1", x.egg(1, 0), 30);
        due("egg 1 brooded", x.egg(1, 4), 1);
        due("egg 2", x.egg(2, 0), 50);
        due("egg 2 day", x.egg(2, 1), 4);
        due("egg 3", x.egg(3, 0), -1);
        due("lived stays", x.personIs(0, 0), 50);
        Checks.law(x, "l7(1=1)");
        due("next egg", x.days(1), 1);
        due("its number", x.egg(3, 0), 7);
        due("not brooded", x.egg(3, 4), 0);
        EggTown y = Towns.town("l5(1=1)");
        due("60 days, 48 eggs", y.days(60), 48);
        Checks.acts(y, "(0+1+2).");
        due("gone ones are not used again", y.days(1), 0);
        due("clean", y.clean(), 3);
        due("three more", y.days(5), 3);
    }

    private static void promise7() {
        EggTown x = Towns.town("l1(1=1)");
        due("feed", x.feed(0x01020304, 0x05060708, 0, 0, 0xFFFFFFFF), 20);
        due("bytes", x.count(6), 20);
        for (int k = 2; k <= 13; k++) {
            due("feed " + k, x.feed(k, k, k, k, k), 20 * k);
        }
        due("too many", x.feed(0, 0, 0, 0, 0), -1);
        due("bytes", x.count(6), 260);
        due("the highest byte first: 1 is no whole number", x.check(1), 0);
        due("empty", x.count(6), 0);
        x.feed('0' << 24 | '.' << 16, 0, 0, 0, 0);
        x.days(1);
        due("the bytes' order", x.acts(2), 1);
    }

    private static void promise8() {
        EggTown x = new EggTown();
        due("one clause", Checks.law(x, "l60(1=1)"), 1);
        due("clauses", x.count(5), 1);
        due("empty then", x.count(6), 0);
        due("three", Checks.law(x, "l5(d=0);b3(1=1);p9(n>2)"), 3);
        due("fault", Checks.law(x, "l5(d=0)!"), -1007);
        due("the one before stays", x.count(5), 3);
        due("empty behind a fault", x.count(6), 0);
        x.feed('l' << 24, 0, 0, 0, 0);
        due("n 0", x.law(0), -1);
        due("n -1", x.law(-1), -1);
        due("n 241", x.law(241), -1);
        due("n 21", x.law(21), -1);
        due("the tape stays", x.count(6), 20);
        due("n 1", x.law(1), -1001);
        StringBuilder b = new StringBuilder("l11");
        while (b.length() < 235) {
            b.append("+1");
        }
        b.append("(1=1)");
        due("240 bytes", Checks.law(x, b.toString()), 1);
        Checks.feed(x, new int[260]);
        due("241 bytes", x.law(241), -1);
        due("the tape stays", x.count(6), 260);
        EggTown y = Towns.town("l60(1=1);l70(1=1);l80(d=0)");
        y.days(1);
        due("the first that holds", y.egg(0, 0), 60);
        Checks.law(y, "b9(1=1)");
        y.days(1);
        due("none: 0", y.egg(1, 0), 0);
        due("an egg all the same", y.count(1), 2);
    }

    /** What l comes to on day 10 for hen 2 of kind 3 that person 5 owns, with a draw of r. */
    private static int lays(String e, String c) {
        EggTown x = new EggTown();
        x.person(5);
        x.days(10);
        x.hen(2, 3, 5);
        x.seed(1);
        Checks.law(x, "l" + e + "(" + c + ")");
        x.days(1);
        return x.egg(0, 0);
    }

    private static void promise8Reckoning() {
        int r = Towns.nextX(Towns.nextX(1)) % 10;
        due("d", lays("d", "1=1"), 10);
        due("w", lays("w", "1=1"), 3);
        due("y", lays("y", "1=1"), 2);
        due("k", lays("k", "1=1"), 3);
        due("r", lays("r", "1=1"), r);
        due("o", lays("o", "1=1"), 5);
        for (String none : new String[] {"m", "a", "c", "i", "n"}) {
            due(none + " is not told", lays("7+" + none, "1=1"), 7);
        }
        due("the bound above", lays("241", "1=1"), 240);
        due("the bound below", lays("1-2", "1=1"), 0);
        due("from the left", lays("100-20-30", "1=1"), 50);
        due("factors first", lays("2+3*4", "1=1"), 14);
        due("from the left, too", lays("100/7*7%9", "1=1"), 98 % 9);
        due("brackets", lays("[2+3]*4", "1=1"), 20);
        due("a rest keeps its sign", lays("10+[0-7]%5", "1=1"), 8);
        due("quotients go to 0", lays("10+[0-7]/2", "1=1"), 7);
        due("32 bits", lays("[99999*99999*9]%200+100", "1=1"), 99999 * 99999 * 9 % 200 + 100);
        due("five digits", lays("00042", "1=1"), 42);
        due("divided by 0: the whole E is 0", lays("5+1/0", "1=1"), 0);
        due("rest by 0", lays("5+1%[d-10]", "1=1"), 0);
        due("<", lays("9", "1<2"), 9);
        due("< not", lays("9", "2<2"), 0);
        due(">", lays("9", "2>1"), 9);
        due("> not", lays("9", "2>2"), 0);
        due("= not", lays("9", "2=1"), 0);
        due("! ", lays("9", "!2=1"), 9);
        due("!!", lays("9", "!!2=1"), 0);
        due("!(..)", lays("9", "!(2=1|1=1)"), 0);
        due("| of &", lays("9", "1=1|1=2&1=2"), 9);
        due("& of |", lays("9", "1=2&1=2|1=1"), 9);
        due("( )", lays("9", "(1=1|1=1)&1=2"), 0);
        due("& row", lays("9", "1=1&2=2&3=3"), 9);
        due("& row broken", lays("9", "1=1&2=3&3=3"), 0);
        due("| row", lays("9", "1=2|2=3|3=3"), 9);
        due("a C divided by 0", lays("9", "1/0=0"), 0);
        due("nor with !", lays("9", "!1/0=0"), 0);
        due("nor with | behind", lays("9", "1/0=0|1=1"), 0);
        due("| ahead: not asked", lays("9", "1=1|1/0=0"), 9);
        due("& ahead: not asked", lays("9", "1=2&1/0=0|1=1"), 9);
        due("nested, not asked", lays("9", "!(1=2&(1=1|1/0=1))"), 9);
        due("a refused C, the next clause", lays("9(1/0=1);l8", "1=1"), 8);
        due("a refused E, no next clause", lays("1/0(1=1);l8", "1=1"), 0);
    }

    private static void fault(String text, int kind, int place) {
        due("law " + text, Checks.law(new EggTown(), text), -1000 * kind - place);
    }

    private static void promise8Faults() {
        fault("x", 1, 0);
        fault(";", 1, 0);
        fault("l", 1, 1);
        fault("l(1=1)", 1, 1);
        fault("l5", 1, 2);
        fault("l5+", 1, 3);
        fault("l5+(1=1)", 1, 3);
        fault("l5 (1=1)", 1, 2);
        fault("ll(1=1)", 1, 1);
        fault("l[5(1=1)", 1, 3);
        fault("l5](1=1)", 1, 2);
        fault("l5(1)", 1, 4);
        fault("l5(1=)", 1, 5);
        fault("l5(1=1", 1, 6);
        fault("l5(1=1=1)", 1, 6);
        fault("l5(1=1&)", 1, 7);
        fault("l5(1=1))", 1, 7);
        fault("l5((1)=1)", 1, 5);
        fault("l5((1=1)=1)", 1, 8);
        fault("l5(!)", 1, 4);
        fault("l5(1=1);", 1, 8);
        fault("l5(1=1);d", 1, 8);
        fault("l5(1=1)l5(1=1)", 1, 7);
        fault("l5(b=1)", 1, 3);
        fault("l123456(1=1)", 2, 6);
        fault("l0000000(1=1)", 2, 6);
        fault("l5(1=123456)", 2, 10);
        fault("l[[[[[[[5", 5, 7);
        due("six [", Checks.law(new EggTown(), "l[[[[[[5]]]]]](1=1)"), 1);
        due("six ( ", Checks.law(new EggTown(), "l1((((((1=1))))))"), 1);
        fault("l1(((((((1=1", 5, 8);
        due("( and five !", Checks.law(new EggTown(), "l1(!!!!!1=1)"), 1);
        fault("l1(!!!!!!1=1)", 5, 8);
        due("mixed, six", Checks.law(new EggTown(), "l1(!(!([1]=1)))"), 1);
        fault("l1(!(!([[1]]=1)))", 5, 8);
        due("a ! ends with its piece", Checks.law(new EggTown(), "l1(!!!!!1=1&!!!!!1=1)"), 1);
        due("the E's [ do not count in C", Checks.law(new EggTown(), "l[[[[[[1]]]]]]((((((1=1))))))"), 1);
        fault("l1(!!!!![1]=1)", 5, 8);
        StringBuilder b = new StringBuilder("l1(1=1)");
        for (int k = 1; k < 16; k++) {
            b.append(";f1(1=1)");
        }
        due("16 clauses", Checks.law(new EggTown(), b.toString()), 16);
        fault(b + ";t", 4, 128);
        fault(b + ";o", 1, 128);
        fault(b + ";", 1, 128);
    }

    private static void promise9() {
        EggTown x = Towns.withEggs("h10+c(1=1);tm/2(1=1);h99(1=1)", 60, 50, 40, 30, 20);
        due("given", Checks.acts(x, "0>1"), 1);
        due("owner", x.egg(0, 3), 1);
        due("given by", x.personIs(0, 3), 60);
        due("given to", x.personIs(1, 2), 60);
        due("laid stays", x.personIs(0, 1), 200);
        due("to its owner", Checks.acts(x, "0>1"), 0);
        due("to nobody", Checks.acts(x, "0>2"), 0);
        due("one is its own already", Checks.acts(x, "(1+0)>1"), 0);
        due("that one is not given", x.egg(1, 3), 0);
        due("brooded", Checks.acts(x, "1*,1*"), 2);
        due("10, then 11 more", x.egg(1, 0), 71);
        due("twice", x.egg(1, 4), 2);
        due("broken for nothing", Checks.acts(x, "1."), 1);
        due("lived", x.personIs(0, 0), 71);
        due("how it is", x.egg(1, 5), 1);
        due("not again", Checks.acts(x, "1.,1*,1>1,(2+1)."), 0);
        due("2 is whole", x.egg(2, 5), 0);
        x.work(3, 30, 5, 9);
        due("work not told", Checks.acts(x, "2!4"), 0);
        due("left out ones go by", Checks.acts(x, "2!4,2!3,2!3,47.,3."), 2);
        due("half of it", x.workIs(3, 1), 20);
        due("the owner lived all", x.personIs(0, 0), 71 + 40 + 30);
        due("the others are broken all the same", Checks.acts(x, "(0+4)!3"), 1);
        due("its needs at most", x.workIs(3, 1), 30);
        due("the owner of the egg lived", x.personIs(1, 0), 60);
        due("both broken", x.count(3), 5);
        EggTown y = Towns.withEggs("h60(1=1);tm(1=1)", 200, 9);
        due("ten times", Checks.acts(y, "0*,0*,0*,0*,0*,0*,0*,0*,0*,0*"), 9);
        due("240 at most", y.egg(0, 0), 240);
        due("9 times at most", y.egg(0, 4), 9);
        due("in a handful", Checks.acts(y, "(1+0)*"), 0);
        due("egg 1", y.egg(1, 4), 0);
        y.work(0, 5, 0, 0);
        due("done", Checks.acts(y, "1!0"), 1);
        due("a work that is done", Checks.acts(y, "0!0"), 0);
        y.feed(0, 0, 0, 0, 0);
        due("n 0", y.acts(0), -1);
        due("n 141", y.acts(141), -1);
        due("n 21", y.acts(21), -1);
        due("the tape stays", y.count(6), 20);
        Checks.feed(y, new int[200]);
        due("141 bytes", y.acts(141), -1);
        due("141 bytes judged", y.judged(141), -1);
        due("the tape stays, still", y.count(6), 220);
        due("fault", y.acts(140), -1000);
        due("empty", y.count(6), 0);
    }

    private static void actsFault(String text, int kind, int place) {
        EggTown x = Towns.withEggs("", 10, 10);
        due("acts " + text, Checks.acts(x, text), -1000 * kind - place);
        due("nothing is done: " + text, x.count(2), 2);
        due("judged " + text, Checks.judged(x, text), -1000 * kind - place);
    }

    private static void promise9Faults() {
        actsFault("x", 1, 0);
        actsFault("0", 1, 1);
        actsFault("0.,", 1, 3);
        actsFault("0.,,", 1, 3);
        actsFault("0.1.", 1, 2);
        actsFault("0>", 1, 2);
        actsFault("0>x", 1, 2);
        actsFault("0.,0>8", 3, 5);
        actsFault("0!9", 3, 2);
        actsFault("0>1.", 1, 3);
        actsFault("000.", 1, 2);
        actsFault("48", 3, 0);
        actsFault("48x", 3, 0);
        actsFault("0.,99.", 3, 3);
        actsFault("()", 1, 1);
        actsFault("(0", 1, 2);
        actsFault("(0+", 1, 3);
        actsFault("(0)", 1, 3);
        actsFault("(0,1).", 1, 2);
        actsFault("(0.", 1, 2);
        actsFault("(0>1", 1, 2);
        actsFault("(0+1*", 1, 4);
        actsFault("((0)).", 1, 1);
        actsFault("0+1.", 1, 1);
        actsFault("(0+48+0).", 3, 3);
        actsFault("(0+1+0).", 7, 5);
        actsFault("(7+07).", 7, 3);
        actsFault("(4+44+4).", 7, 6);
        actsFault("(0+1+2+3+4+5+6+7+0).", 6, 17);
        actsFault("(0+1+2+3+4+5+6+7+99).", 6, 17);
        actsFault("(0+1+2+3+4+5+6+7+).", 1, 17);
        actsFault("(0+1+2+3+4+5+6+7", 1, 16);
        StringBuilder b = new StringBuilder("0*");
        for (int k = 1; k < 24; k++) {
            b.append(",0*");
        }
        EggTown x = Towns.withEggs("", 10);
        due("24 lines", Checks.acts(x, b.toString()), 9);
        actsFault(b + ",0", 4, 72);
        actsFault(b + ",(", 4, 72);
        actsFault(b + ",", 1, 72);
        actsFault(b + ",*", 1, 72);
    }

    private static void promise10() {
        EggTown x = Towns.withEggs("h5(1=1);tm(1=1)", 60, 50, 40);
        x.work(0, 50, 1, 9);
        due("all can", Checks.judged(x, "0*,0>1,0.,(1+2)."), 4);
        due("the third can't", Checks.judged(x, "0.,1.,0*,2."), 2);
        due("the first", Checks.judged(x, "5."), 0);
        due("the work is done by then", Checks.judged(x, "0!0,1!0"), 1);
        due("given by then", Checks.judged(x, "0>1,0>0,0>0"), 2);
        due("nothing is done", x.count(2), 3);
        due("nor brooded", x.egg(0, 0), 60);
        due("nor given", x.personIs(0, 3), 0);
        due("nor the work", x.workIs(0, 1), 0);
        due("empty then", x.count(6), 0);
        x.feed(0, 0, 0, 0, 0);
        due("n 0", x.judged(0), -1);
        due("n 141", x.judged(141), -1);
        due("n 21", x.judged(21), -1);
        due("the tape stays", x.count(6), 20);
    }

    private static void promise11() {
        EggTown x = Towns.town("l60(1=1)");
        x.hen(3, 2, 1);
        due("n 0", x.days(0), -1);
        due("n 61", x.days(61), -1);
        due("n -1", x.days(-1), -1);
        due("two days of two hens", x.days(2), 4);
        due("by numbers", x.egg(0, 2), 0);
        due("by numbers, 1", x.egg(1, 2), 3);
        due("the day", x.egg(2, 1), 1);
        due("the owner", x.egg(3, 3), 1);
        due("laid for it", x.personIs(1, 1), 120);
        int seed = 1;
        for (int k = 0; k < 8; k++) {
            seed = Towns.nextX(seed);
        }
        due("two draws a hen that lays", x.count(7), seed);
        Checks.law(x, "l60(1=1);f10(y=0)");
        due("hen 0 strikes", x.days(1), 1);
        for (int k = 0; k < 3; k++) {
            seed = Towns.nextX(seed);
        }
        due("one draw if it strikes", x.count(7), seed);
        strikesByDraws();
        noEggLeft();
        goesBad();
        lastDay();
    }

    private static void strikesByDraws() {
        EggTown x = Towns.town("f4(1=1);lr(1=1)");
        x.seed(777);
        int seed = 777;
        int eggs = 0;
        for (int day = 0; day < 40; day++) {
            seed = Towns.nextX(seed);
            boolean lays = seed % 10 >= 4;
            due("lays on day " + day, x.days(1), lays ? 1 : 0);
            if (lays) {
                seed = Towns.nextX(seed);
                due("by the other draw", x.egg(eggs, 0), seed % 10);
                eggs++;
            }
        }
    }

    private static void noEggLeft() {
        EggTown x = Towns.town("l5(1=1)");
        due("48 eggs", x.days(60), 48);
        int seed = 1;
        for (int k = 0; k < 2 * 48 + 12; k++) {
            seed = Towns.nextX(seed);
        }
        due("then one draw a day", x.count(7), seed);
        due("laid for it", x.personIs(0, 1), 48 * 5);
        due("the day goes on", x.count(0), 60);
    }

    private static void goesBad() {
        EggTown x = Towns.town("l5(1=1);b2(1=1)");
        x.days(2);
        due("none yet", x.count(4), 0);
        x.days(1);
        due("on day 2", x.egg(0, 5), 2);
        due("one", x.count(4), 1);
        Checks.law(x, "b1(o=0&c=0&m=5&y=0&k=1)");
        x.days(1);
        due("three, by the law as it is", x.count(4), 3);
        due("the one of that day is 0 days old", x.egg(3, 5), 0);
        EggTown y = Towns.town("l5(1=1)");
        y.days(40);
        due("b 0: never", y.count(4), 0);
        EggTown z = Towns.town("l5(1=1);b100(a>2)");
        z.days(60);
        due("99 at most, not so soon", z.count(4), 0);
        z.days(41);
        due("behind 99 days", z.count(4), 2);
    }

    private static void lastDay() {
        EggTown x = new EggTown();
        for (int k = 0; k < 166; k++) {
            x.days(60);
        }
        x.person(0);
        x.hen(0, 0, 0);
        due("the day", x.count(0), 9960);
        due("no more than 39", x.days(60), 39);
        due("the last day", x.count(0), 9999);
        int seed = x.count(7);
        due("none goes by", x.days(1), 0);
        due("none is tried", x.tried(5, 0), 0);
        due("no draw", x.count(7), seed);
        x.work(0, 500, 0, 9999);
        due("soonest: above 9999", x.soonest(0, 0), -2);
        due("latest on the last day", x.latest(0, 500), 9999);
    }

    private static void promise12() {
        EggTown x = Towns.town("l60(r<5);l30(1=1);f4(1=1);b2(1=1)");
        x.hen(5, 0, 1);
        x.days(3);
        int[] want = new int[5];
        EggTown y = Towns.town("l60(r<5);l30(1=1);f4(1=1);b2(1=1)");
        y.hen(5, 0, 1);
        y.days(3);
        int bad = y.count(4);
        int had = y.count(1);
        int minutes = y.personIs(0, 1) + y.personIs(1, 1);
        want[0] = y.days(7);
        want[1] = y.personIs(0, 1) + y.personIs(1, 1) - minutes;
        want[2] = y.count(4) - bad;
        want[3] = 14 - want[0];
        want[4] = y.count(2);
        due("eggs are laid", had + want[0], y.count(1));
        for (int what = 0; what < 5; what++) {
            due("tried(7," + what + ")", x.tried(7, what), want[what]);
        }
        due("the day stays", x.count(0), 3);
        due("the eggs stay", x.count(1), had);
        due("laid stays", x.personIs(0, 1) + x.personIs(1, 1), minutes);
        due("n 0", x.tried(0, 0), -1);
        due("n 61", x.tried(61, 0), -1);
        due("what 5", x.tried(1, 5), -1);
        due("what -1", x.tried(1, -1), -1);
        due("none left: strikes only", Towns.town("f10(1=1)").tried(60, 3), 60);
        due("none left", Towns.town("").tried(60, 0), 48);
    }

    private static void promise13() {
        EggTown x = Towns.town("l60(1=1);b3+a(1=1);h7(1=1)");
        x.days(2);
        x.hen(0, 1, 1);
        x.days(1);
        Checks.acts(x, "1*,2>0");
        int[][] want = {{60, 0, 0, 0, 0, 0, 6}, {67, 1, 0, 0, 1, 0, 6}, {60, 2, 0, 0, 0, 0, 6}};
        for (int i = 0; i < 3; i++) {
            for (int what = 0; what < 7; what++) {
                due("egg(" + i + "," + what + ")", x.egg(i, what), want[i][what]);
            }
        }
        due("what 7", x.egg(0, 7), -1);
        due("what -1", x.egg(0, -1), -1);
        due("egg 3", x.egg(3, 0), -1);
        due("egg -1", x.egg(-1, 0), -1);
        due("egg 48", x.egg(48, 0), -1);
        Checks.law(x, "l60(1=1)");
        due("never", x.egg(0, 6), -2);
        Checks.acts(x, "0.");
        due("broken", x.egg(0, 5), 1);
        Checks.law(x, "b1(1=1)");
        x.days(1);
        due("bad", x.egg(1, 5), 2);
        due("by b now", x.egg(2, 6), 3);
    }

    private static void promise14() {
        EggTown x = Towns.withEggs("h9(1=1)", 60, 50, 40, 30);
        x.hen(4, 0, 0);
        x.hen(5, 0, 1);
        Checks.acts(x, "0>1,1>1,1>0,2.,3*");
        int[] zero = {40, 180, 50, 110, 2, 50 + 39, 2};
        int[] one = {0, 0, 110, 50, 1, 60, 1};
        for (int what = 0; what < 7; what++) {
            due("personIs(0," + what + ")", x.personIs(0, what), zero[what]);
            due("personIs(1," + what + ")", x.personIs(1, what), one[what]);
        }
        due("what 7", x.personIs(0, 7), -1);
        due("what -1", x.personIs(0, -1), -1);
        due("not told", x.personIs(2, 0), -1);
        due("-1", x.personIs(-1, 0), -1);
        due("8", x.personIs(8, 0), -1);
        x.fox(4);
        due("hens", x.personIs(0, 6), 1);
    }

    private static void promise15() {
        EggTown x = Towns.withEggs("tm(1=1)", 60, 50, 40);
        x.work(0, 100, 7, 3);
        x.work(1, 100, 7, 2);
        int[] want = {100, 0, 7, 3, 0, 1};
        for (int what = 0; what < 6; what++) {
            due("workIs(0," + what + ")", x.workIs(0, what), want[what]);
        }
        due("the day is above it", x.workIs(1, 5), 0);
        due("what 6", x.workIs(0, 6), -1);
        due("what -1", x.workIs(0, -1), -1);
        due("not told", x.workIs(2, 0), -1);
        due("8", x.workIs(8, 0), -1);
        Checks.acts(x, "(0+1)!0");
        due("done", x.workIs(0, 4), 1);
        due("so far", x.workIs(0, 1), 100);
        x.days(2);
        due("was so by its day", x.workIs(0, 5), 1);
        x.work(2, 40, 0, 4);
        Checks.acts(x, "2!2");
        due("done later", x.workIs(2, 4), 1);
        due("later than its day", x.workIs(2, 5), 0);
    }

    private static void promise16() {
        EggTown x = Towns.withEggs("tm(i<7);tm/2(1=1)", 30, 60, 30, 20);
        x.work(0, 60, 5, 9);
        x.work(1, 50, 4, 9);
        x.work(2, 141, 99, 9);
        x.work(3, 20, 0, 9);
        x.work(7, 30, 3, 9);
        due("the fewest eggs", x.plan(0, 1, 1), 1);
        due("that egg", x.plan(0, 1, 10), 2);
        due("two works", x.plan(0, 3, 0), 9);
        due("three eggs", x.plan(0, 3, 1), 3);
        due("the least row, work 0", x.plan(0, 3, 10), 2);
        due("the least row, work 1", x.plan(0, 3, 11), 5);
        due("not to be reached", x.plan(0, 4, 0), 0);
        due("no egg then", x.plan(0, 4, 1), 0);
        due("its bits", x.plan(0, 4, 12), 0);
        due("worth nothing: no egg", x.plan(0, 8, 1), 0);
        due("t of each work", x.plan(0, 128, 17), 2);
        due("four works", x.plan(0, 139, 0), 9);
        due("four works, row 7", x.plan(0, 139, 17), 0);
        due("five works", x.plan(0, 143, 0), -1);
        due("none", x.plan(0, 0, 0), -1);
        due("not told", x.plan(0, 16, 0), -1);
        due("not told", x.plan(0, 17, 0), -1);
        due("256", x.plan(0, 256, 0), -1);
        due("-1", x.plan(0, -1, 0), -1);
        due("no such person", x.plan(2, 1, 0), -1);
        due("no such person", x.plan(-1, 1, 0), -1);
        due("what 2", x.plan(0, 1, 2), -1);
        due("what 11 of 1", x.plan(0, 1, 11), -1);
        due("what 18", x.plan(0, 1, 18), -1);
        due("of another", x.plan(1, 1, 0), 0);
        Checks.acts(x, "0!1");
        due("done so far counts", x.plan(0, 2, 1), 1);
        due("the least bits", x.plan(0, 2, 11), 1);
        Checks.acts(x, "3!1");
        due("one is done", x.plan(0, 3, 0), -2);
        due("one that is done, what wrong", x.plan(0, 3, 2), -1);
        EggTown few = Towns.withEggs("tm(1=1)", 30, 30, 60, 5);
        few.work(0, 60, 5, 9);
        few.work(1, 5, 5, 9);
        due("fewer eggs come ahead of the least row", few.plan(0, 1, 10), 4);
        due("one egg", few.plan(0, 1, 1), 1);
        Checks.acts(few, "3!1");
        due("the second is done", few.plan(0, 3, 0), -2);
        few.work(1, 5, 5, 9);
        Checks.acts(few, "2!0");
        due("the first is done", few.plan(0, 3, 0), -2);
        due("nothing changed", x.count(2), 2);
        EggTown y = Towns.withEggs("tm(1=1)", 9, 9, 9, 9, 9, 9, 9, 9, 9, 9, 90);
        y.work(0, 91, 1, 9);
        due("the lowest 10 only", y.plan(0, 1, 0), 0);
        y.work(0, 90, 1, 9);
        due("all of them", y.plan(0, 1, 10), 1023);
        y.work(0, 18, 1, 9);
        y.work(1, 18, 1, 9);
        y.work(2, 18, 1, 9);
        y.work(3, 27, 1, 9);
        due("four works at once", y.plan(0, 15, 0), 4);
        due("nine eggs", y.plan(0, 15, 1), 9);
        due("row 0", y.plan(0, 15, 10), 3);
        due("row 1", y.plan(0, 15, 11), 12);
        due("row 2", y.plan(0, 15, 12), 48);
        due("row 3", y.plan(0, 15, 13), 448);
    }

    private static void promise17() {
        EggTown x = Towns.withEggs("b4(1=1)", 60, 50, 40, 30);
        // THE DAY is 4: egg 0 is bad on it, 1 on 5, 2 on 6, 3 on 7.
        due("each 1", x.before(0, 1, 9), 50 + 40 + 30);
        due("each 1, one day", x.before(0, 1, 1), 50);
        due("each 1, two days", x.before(0, 1, 2), 90);
        due("each 8, one day", x.before(0, 8, 1), 120);
        Checks.law(x, "b4(1<0)");
        due("b 0: any day", x.before(0, 1, 40), 180);
        due("three days", x.before(0, 1, 3), 150);
        Checks.law(x, "b5-a+m/50(1=1)");
        // a 4 3 2 1: b 2 3 3 4, bad on 2, 4, 5, 7.
        due("b now", x.before(0, 1, 9), 70);
        due("each 0", x.before(0, 0, 1), -1);
        due("each 9", x.before(0, 9, 1), -1);
        due("n 0", x.before(0, 1, 0), -1);
        due("n 41", x.before(0, 1, 41), -1);
        due("not told", x.before(2, 1, 1), -1);
        due("has none", x.before(1, 1, 1), 0);
        due("nothing changed", x.count(2), 4);
        EggTown y = Towns.withEggs("", 11, 12, 61, 51);
        Checks.law(y, "b5(m<20);b6(m=61);b9(1=1)");
        // bad on 5, 6, 8, 12 and THE DAY is 4.
        due("the later ones give way", y.before(0, 1, 2), 112);
        due("four days", y.before(0, 1, 4), 12 + 61 + 51 + 11);
    }

    private static void promise18() {
        int[][] most = new int[21][13];
        for (int n = 1; n <= 12; n++) {
            for (int h = 1; h <= 20; h++) {
                int first = 0;
                for (int k = 0; k <= Math.min(h, 20 - h); k++) {
                    int hours = h - k + most[h + k][n - 1];
                    if (hours > most[h][n]) {
                        most[h][n] = hours;
                        first = k;
                    }
                }
                EggTown x = new EggTown();
                due("flock(" + h + "," + n + ",0)", x.flock(h, n, 0), most[h][n]);
                due("flock(" + h + "," + n + ",1)", x.flock(h, n, 1), first);
            }
        }
        EggTown x = new EggTown();
        due("two days: none is worth it", x.flock(1, 2, 1), 0);
        due("three days", x.flock(1, 3, 0), 4);
        due("hens 0", x.flock(0, 1, 0), -1);
        due("hens 21", x.flock(21, 1, 0), -1);
        due("n 0", x.flock(1, 0, 0), -1);
        due("n 13", x.flock(1, 13, 0), -1);
        due("what 2", x.flock(1, 1, 2), -1);
        due("what -1", x.flock(1, 1, -1), -1);
    }

    private static int rations(EggTown x, int m, int what, int... eggs) {
        Checks.feed(x, eggs);
        return x.rations(eggs.length, m, what);
    }

    private static void promise19() {
        EggTown x = Towns.withEggs("", 60, 50, 40, 30, 10, 10, 5, 5);
        due("the least of two", rations(x, 2, 10, 0, 1, 2, 3), 90);
        int[] row = {0, 1, 1, 0};
        for (int k = 0; k < 4; k++) {
            due("whose " + k, rations(x, 2, k, 0, 1, 2, 3), row[k]);
        }
        due("as told, not by numbers", rations(x, 2, 1, 3, 0, 1, 2), 0);
        due("the least of three", rations(x, 3, 10, 0, 1, 2, 3, 4, 5, 6, 7), 70);
        due("one egg of two", rations(x, 2, 10, 4), 0);
        due("one egg: the least row", rations(x, 2, 0, 4), 0);
        due("no such place", rations(x, 2, 1, 4), -3);
        due("no such place", rations(x, 2, -1, 4), -3);
        due("no such place", rations(x, 2, 11, 4), -3);
        due("no such egg", rations(x, 2, 10, 8), -2);
        due("no such egg", rations(x, 2, 10, 255), -2);
        due("one twice", rations(x, 2, 10, 1, 2, 1), -2);
        due("empty then", x.count(6), 0);
        Checks.acts(x, "0.");
        due("not whole", rations(x, 2, 10, 1, 0), -2);
        x.feed(0x01020304, 0, 0, 0, 0);
        due("n 0", x.rations(0, 2, 10), -1);
        due("n 9", x.rations(9, 2, 10), -1);
        due("m 1", x.rations(1, 1, 10), -1);
        due("m 4", x.rations(1, 4, 10), -1);
        due("the tape stays", x.count(6), 20);
        due("then it does", x.rations(2, 2, 10), 40);
        due("not so many", x.rations(1, 2, 10), -1);
        due("nothing changed", x.count(2), 7);
    }

    private static int hoards(EggTown x, int what, int... keeps) {
        int[] bytes = new int[2 * keeps.length];
        for (int k = 0; k < keeps.length; k++) {
            bytes[2 * k] = keeps[k] >> 8;
            bytes[2 * k + 1] = keeps[k];
        }
        Checks.feed(x, bytes);
        return x.hoards(keeps.length, what);
    }

    private static void promise20() {
        EggTown x = Towns.town("p120/n(1=1)");
        // So many that sell have 120, 60, 40, 30, 24 each.
        due("one of two", hoards(x, 0, 70, 70), 2);
        due("the lowest", hoards(x, 1, 70, 70), 1);
        due("both", hoards(x, 1, 50, 50), 3);
        due("nobody", hoards(x, 1, 500, 999), 0);
        due("as much is no gain", hoards(x, 0, 60, 120), 2);
        due("as much, the lowest", hoards(x, 1, 60, 120), 1);
        due("of five", hoards(x, 0, 35, 35, 35, 35, 35), 10);
        due("of five, the lowest", hoards(x, 1, 35, 35, 35, 35, 35), 7);
        due("the second sells", hoards(x, 1, 300, 20), 2);
        due("1000", hoards(x, 0, 60, 1000), -3);
        due("empty then", x.count(6), 0);
        due("999", hoards(x, 0, 60, 999), 1);
        EggTown y = Towns.town("p100(n=2);p0(1=1)");
        due("only two together", hoards(y, 0, 50, 50), 2);
        due("nobody is the lowest", hoards(y, 1, 50, 50), 0);
        EggTown z = Towns.town("pn*30+y+k+r+m+a+c+o+i(1=1)");
        due("nothing else is told in p", hoards(z, 1, 30, 60), 0);
        z.days(3);
        Checks.law(z, "pn*30+y+k+r+m+a+c+o+i(1=1)");
        due("nor behind days", hoards(z, 1, 30, 60), 0);
        due("that is so for all rows", hoards(z, 0, 29, 60), 2);
        EggTown late = Towns.withEggs("b9(1=1)", 60, 60, 60);
        Checks.law(late, "b9(1=1);p40+y+k+r+m+a+c+o+i(1=1)");
        due("an egg is asked", late.egg(0, 6), 9);
        due("nothing of it in p", hoards(late, 0, 41, 42), 1);
        due("nobody sells", hoards(late, 1, 41, 42), 0);
        due("but the day", hoards(Towns.town("pd*99(1=1)"), 1, 1, 1), 0);
        EggTown none = Towns.town("p50(n=1&1<0);p10(n=1);p20(n=2)");
        due("both or nobody", hoards(none, 0, 15, 15), 2);
        x.feed(0, 0, 0, 0, 0);
        due("n 1", x.hoards(1, 0), -1);
        due("n 6", x.hoards(6, 0), -1);
        due("what 2", x.hoards(2, 2), -1);
        due("what -1", x.hoards(2, -1), -1);
        due("the tape stays", x.count(6), 20);
        due("then", x.hoards(5, 0), 1);
        due("not so many", x.hoards(2, 0), -1);
    }

    private static int yolks(EggTown x, int minutes, int what, int... eggs) {
        Checks.feed(x, eggs);
        return x.yolks(eggs.length, minutes, what);
    }

    private static void promise21() {
        EggTown x = Towns.withEggs("", 10, 20, 30, 40, 0);
        Checks.acts(x, "(0+1+2+4).");
        due("none double", yolks(x, 60, 1, 0, 1, 2), 0);
        due("30 more: two ways", yolks(x, 90, 0, 0, 1, 2), 2);
        due("the first", yolks(x, 90, 1, 0, 1, 2), 3);
        due("bits as told", yolks(x, 90, 1, 2, 0, 1), 1);
        due("the least bits", yolks(x, 110, 1, 0, 4, 1, 2), 12);
        due("all double", yolks(x, 120, 1, 0, 1, 2), 7);
        due("no set", yolks(x, 65, 1, 0, 1, 2), -2);
        due("no set: 0", yolks(x, 65, 0, 0, 1, 2), 0);
        due("too few", yolks(x, 0, 0, 0, 1, 2), 0);
        due("an egg of nothing", yolks(x, 0, 0, 4), 2);
        due("not broken", yolks(x, 60, 0, 0, 3), -3);
        due("not laid", yolks(x, 60, 0, 0, 47), -3);
        due("no such egg", yolks(x, 60, 0, 200), -3);
        due("one twice", yolks(x, 60, 0, 0, 1, 0), -3);
        due("empty then", x.count(6), 0);
        x.feed(0x00010204, 0, 0, 0, 0);
        due("n 0", x.yolks(0, 60, 0), -1);
        due("n 11", x.yolks(11, 60, 0), -1);
        due("-1 minutes", x.yolks(1, -1, 0), -1);
        due("10000 minutes", x.yolks(1, 10000, 0), -1);
        due("what 2", x.yolks(1, 60, 2), -1);
        due("the tape stays", x.count(6), 20);
        due("9999 minutes", x.yolks(1, 9999, 0), 0);
        due("not so many", x.yolks(1, 60, 0), -1);
    }

    private static void promise22() {
        EggTown x = Towns.withEggs("h9(1=1)", 60, 50, 40);
        x.person(5);
        due("less: all laid", x.thefts(0), -150);
        due("nobody", x.thefts(10), -2);
        due("none", x.thefts(11), 0);
        Checks.acts(x, "0*,0>1,0.");
        due("given more than laid", x.thefts(0), -150 + 69);
        due("as much as it was given", x.thefts(1), 0);
        Checks.acts(x, "1>1,1*,1.,2>5,2*,2.");
        due("brooding, too", x.thefts(1), 9);
        due("and 5", x.thefts(5), 9);
        due("given all", x.thefts(0), 9);
        due("the lowest", x.thefts(10), 0);
        due("three have some", x.thefts(11), 3);
        EggTown one = Towns.withEggs("h1(1=1)", 60, 60);
        Checks.acts(one, "0*,0>1,0*,0.,1.");
        due("0 has one more", one.thefts(0), 1);
        due("1, too", one.thefts(1), 1);
        due("one is some", one.thefts(10), 0);
        due("not told", x.thefts(2), NO_THEFT);
        due("8", x.thefts(8), NO_THEFT);
        due("9", x.thefts(9), NO_THEFT);
        due("12", x.thefts(12), NO_THEFT);
        due("-1", x.thefts(-1), NO_THEFT);
    }

    private static void promise23() {
        EggTown x = Towns.withEggs("", 10, 20, 30, 60, 0, 30);
        due("none of it, and the empty egg", x.baskets(0, 0, 0), 2);
        due("the first of 0", x.baskets(0, 0, 1), 0);
        due("30", x.baskets(0, 30, 0), 6);
        due("the fewest", x.baskets(0, 30, 1), 4);
        due("60: one egg", x.baskets(0, 60, 1), 8);
        due("50: two eggs, the least bits", x.baskets(0, 50, 1), 6);
        due("none", x.baskets(0, 5, 1), -2);
        due("none: 0", x.baskets(0, 5, 0), 0);
        due("of another: the empty set", x.baskets(1, 0, 0), 1);
        due("9999", x.baskets(0, 9999, 0), 0);
        due("-1 minutes", x.baskets(0, -1, 0), -1);
        due("10000", x.baskets(0, 10000, 0), -1);
        due("what 2", x.baskets(0, 1, 2), -1);
        due("not told", x.baskets(2, 1, 0), -1);
        Checks.acts(x, "0.");
        due("bits of whole ones", x.baskets(0, 60, 1), 4);
        due("nothing changed", x.count(2), 5);
        EggTown like = Towns.withEggs("", 10, 10, 20);
        due("two of two eggs", like.baskets(0, 30, 0), 2);
        due("the least bits of them", like.baskets(0, 30, 1), 5);
        EggTown y = Towns.withEggs("", 1, 1, 1, 1, 1, 1, 1, 1, 1, 1, 1, 1, 5);
        due("the lowest 12", y.baskets(0, 5, 0), 792);
        due("the first five", y.baskets(0, 5, 1), 31);
        due("all 12", y.baskets(0, 12, 1), 4095);
    }

    private static void promise24() {
        EggTown x = Towns.withEggs("tm(1=1)", 60, 50, 40);
        x.work(0, 100, 0, 9);
        due("one day", x.latest(0, 100), 9);
        due("two days", x.latest(0, 99), 8);
        due("ten days: too late", x.latest(0, 10), -2);
        due("just today", x.latest(0, 15), 3);
        due("too late by a day", x.latest(0, 14), -2);
        Checks.acts(x, "0!0");
        due("40 are left", x.latest(0, 10), 6);
        due("k 0", x.latest(0, 0), -1);
        due("k 1000", x.latest(0, 1000), -1);
        due("k 999", x.latest(0, 999), 9);
        due("not told", x.latest(1, 1), -1);
        due("-1", x.latest(-1, 1), -1);
        due("8", x.latest(8, 1), -1);
        Checks.acts(x, "1!0");
        due("done", x.latest(0, 1), -3);
        x.work(0, 1, 0, 2);
        due("its day is gone", x.latest(0, 999), -2);
    }

    private static void promise25() {
        EggTown x = Towns.withEggs("l10(1=1);tm-a(1=1)", 60, 50);
        // THE DAY is 2: t is 58 and 49.
        x.work(0, 107, 0, 0);
        due("now", x.soonest(0, 0), 0);
        x.work(0, 108, 0, 0);
        due("behind one day: 10 of that, one day old", x.soonest(0, 0), 1);
        x.work(0, 107 + 9 * 3, 0, 0);
        due("three days", x.soonest(0, 0), 3);
        due("by whom", x.soonest(0, 8), 0);
        due("who has no hens", x.soonest(0, 1), -2);
        x.hen(1, 0, 1);
        x.hen(2, 0, 1);
        x.work(1, 9, 0, 0);
        due("person 1, one day", x.soonest(1, 1), 1);
        due("but 0 now", x.soonest(1, 8), 0);
        Checks.acts(x, "(0+1)>1");
        due("now 1", x.soonest(1, 8), 1);
        due("0 is later", x.soonest(1, 0), 1);
        due("of like ones the lowest", both(x), 0);
        due("not told work", x.soonest(2, 0), -1);
        due("not told person", x.soonest(1, 2), -1);
        due("9", x.soonest(1, 9), -1);
        due("-1", x.soonest(-1, 0), -1);
        due("nothing changed", x.count(0), 2);
        due("no draws", x.count(7), Towns.nextX(Towns.nextX(Towns.nextX(Towns.nextX(1)))));
        Checks.acts(x, "0!1");
        due("done", x.soonest(1, 8), -3);
        EggTown y = Towns.town("l1(1=1);tm(1=1)");
        y.work(0, 48, 0, 0);
        due("48 eggs, 48 days", y.soonest(0, 0), 48);
        y.work(0, 49, 0, 0);
        due("no egg is left", y.soonest(0, 0), -2);
        EggTown z = Towns.town("l1(1=1);tm(d=60);f10(d<59)");
        z.work(0, 1, 0, 0);
        due("60 days", z.soonest(0, 0), 60);
        due("who in 60 days", z.soonest(0, 8), 0);
        Checks.law(z, "l1(1=1);tm(d=61);f10(d<59)");
        due("61 are too many", z.soonest(0, 0), -2);
        due("nobody", z.soonest(0, 8), -2);
        EggTown none = new EggTown();
        none.work(0, 1, 0, 0);
        due("no people", none.soonest(0, 8), -2);
    }

    private static int both(EggTown x) {
        x.work(1, 1, 0, 0);
        x.keep();
        Checks.acts(x, "1>0");
        int who = x.soonest(1, 8);
        x.undo();
        return who;
    }

    private static void promise26() {
        EggTown x = Towns.withEggs("", 60, 50, 40, 10, 20);
        Checks.acts(x, "(3+4)>1");
        // 0 has 150, 1 has 30.
        due("40 less, 40 more", x.barter(0, 1, 110, 70, 0), 6);
        due("the first of a", x.barter(0, 1, 110, 70, 1), 0);
        due("the first of b", x.barter(0, 1, 110, 70, 2), 3);
        due("just 20: nearer, not as near", x.barter(0, 1, 140, 40, 0), 0);
        due("25", x.barter(0, 1, 125, 55, 0), 5);
        due("25: the first of a", x.barter(0, 1, 125, 55, 1), 0);
        due("25: the first of b", x.barter(0, 1, 125, 55, 2), 4);
        due("0 wants more", x.barter(0, 1, 200, 10, 0), 0);
        due("none", x.barter(0, 1, 150, 30, 1), -2);
        due("none", x.barter(0, 1, 150, 30, 2), -2);
        due("the other way", x.barter(1, 0, 70, 110, 1), 3);
        due("the other way", x.barter(1, 0, 70, 110, 2), 0);
        due("one twice", x.barter(0, 0, 1, 1, 0), -1);
        due("not told", x.barter(0, 2, 1, 1, 0), -1);
        due("not told", x.barter(2, 0, 1, 1, 0), -1);
        due("-1", x.barter(0, 1, -1, 1, 0), -1);
        due("10000", x.barter(0, 1, 1, 10000, 0), -1);
        due("9999", x.barter(0, 1, 9999, 9999, 0), 0);
        due("what 3", x.barter(0, 1, 1, 1, 3), -1);
        due("what -1", x.barter(0, 1, 1, 1, -1), -1);
        due("nothing changed", x.egg(0, 3), 0);
    }

    private static void promise27() {
        EggTown x = Towns.town("lr(1=1)");
        due("seed(0)", x.seed(0), true);
        due("X", x.count(7), 0);
        due("seed(65535)", x.seed(65535), true);
        due("seed(65536)", x.seed(65536), false);
        due("seed(-1)", x.seed(-1), false);
        due("X stays", x.count(7), 65535);
        x.days(1);
        due("X goes on", x.count(7), Towns.nextX(Towns.nextX(65535)));
        due("the draw", x.egg(0, 0), Towns.nextX(Towns.nextX(65535)) % 10);
    }

    /** The same calls on both: what one of them does further and undoes must leave no trace. */
    private static EggTown busy() {
        EggTown x = Towns.withEggs("h9(1=1);tm(1=1);l33(1=1)", 60, 50, 40, 30, 20);
        x.hen(4, 2, 1);
        x.work(0, 100, 3, 5);
        x.work(1, 20, 4, 6);
        x.days(2);
        Checks.acts(x, "2.,1*,1>1,3!0,6>0,4!1");
        x.feed('0' << 24 | '.' << 16, 7, 7, 7, 7);
        return x;
    }

    private static void stir(EggTown x) {
        x.check(0);
        x.days(1);
        Checks.acts(x, "0*,0>1,0!0,1>0,1*,6.,(5+7)!0,8>0");
        x.person(4);
        x.hen(3, 2, 4);
        x.hen(0, 3, 4);
        x.fox(4);
        x.work(1, 7, 8, 9);
        x.work(5, 1, 1, 1);
        x.clean();
        x.days(9);
        x.seed(9);
        Checks.acts(x, "0!5,(2+3)*");
    }

    private static void promise28And29() {
        due("none was KEPT", new EggTown().undo(), false);
        EggTown x = busy();
        int[] want = Towns.all(busy());
        due("keep()", x.keep(), x.count(2));
        stir(x);
        Checks.law(x, "l5(1=1)");
        due("undo()", x.undo(), true);
        due("all but THE LAW", java.util.Arrays.equals(Towns.all(x), want), true);
        due("THE LAW is as it is", x.count(5), 1);
        EggTown y = busy();
        y.keep();
        stir(y);
        y.undo();
        stir(y);
        due("and again", y.undo(), true);
        due("all again", java.util.Arrays.equals(Towns.all(y), want), true);
        due("the tape, too", y.count(6), 20);
        due("the tape can be used", y.acts(2), 1);
        int whole = y.count(2);
        due("keep() anew", y.keep(), whole);
        y.days(1);
        y.undo();
        due("as it was KEPT last", y.count(2), whole);
        due("the work's kept day", y.workIs(1, 5), 0);
        EggTown z = busy();
        z.days(5);
        due("was done on day 7, not by 6", z.workIs(1, 5), 0);
    }

    private static int check(EggTown x, int... numbers) {
        int[] bytes = new int[4 * numbers.length];
        for (int k = 0; k < bytes.length; k++) {
            bytes[k] = numbers[k / 4] >> 24 - 8 * (k % 4);
        }
        Checks.feed(x, bytes);
        return x.check(numbers.length);
    }

    private static void promise30() {
        EggTown x = Towns.withEggs("", 60, 50, 240);
        Checks.acts(x, "1.");
        due("right", check(x, 60, 50, 240, 0, 0), -1);
        due("the first", check(x, 61, 51, 240), 0);
        due("the second", check(x, 60, 51, 241), 1);
        due("one that is not laid", check(x, 60, 50, 240, 0, 7), 4);
        due("the high bytes count", check(x, 60, 50 + 256), 1);
        due("and the highest", check(x, 60, 50 + (1 << 24)), 1);
        due("-1", check(x, 60, 50, 240, -1), 3);
        due("empty then", x.count(6), 0);
        x.feed(0, 0, 0, 0, 0);
        due("n -1", x.check(-1), -2);
        due("n 49", x.check(49), -2);
        due("not so many", x.check(6), -2);
        due("the tape stays", x.count(6), 20);
        due("n 0", x.check(0), -1);
        due("empty then", x.count(6), 0);
        int[] all = new int[48];
        all[0] = 60;
        all[1] = 50;
        all[2] = 240;
        due("all 48", check(x, all), -1);
        all[47] = 1;
        due("the last", check(x, all), 47);
    }

    private static void promise31() {
        EggTown x = Towns.withEggs("b2(d=3)", 60, 50, 40);
        Checks.acts(x, "2.");
        x.hen(7, 3, 1);
        x.days(1);
        x.work(2, 5, 5, 5);
        x.feed(1, 2, 3, 4, 5);
        int[] want = {4, 5, 2, 1, 2, 4, 20};
        for (int what = 0; what < want.length; what++) {
            due("count(" + what + ")", x.count(what), want[what]);
        }
        due("people", x.count(8), 3);
        due("hens", x.count(9), 129);
        due("works", x.count(10), 4);
        due("kind", x.count(27), 3);
        due("owner", x.count(37), 1);
        for (int what : new int[] {-1, 11, 19, 21, 26, 28, 29, 31, 36, 38, 1000, Integer.MIN_VALUE}) {
            due("count(" + what + ")", x.count(what), -1);
        }
    }
}
