/** The bounds that the document names for what is searched: plans, orders, flocks, rations, hoards and the rest. */
public final class SearchBoundsTest {
    private static final int NO_THEFT = -1000000000;

    private SearchBoundsTest() {
    }

    public static void main(String[] args) {
        planOfNothing();
        planOfTenEggs();
        planOfTheSameEgg();
        planOfFourWorks();
        planOfLikeOnes();
        planOfWorksThatAreDone();
        beforeTheDay();
        beforeWithinDays();
        beforeOfMany();
        flockOfTwenty();
        flockOfFewDays();
        rationsOfOneAndEight();
        rationsOfLikeOnes();
        rationsOfNoSuchEggs();
        hoardsOfTwoAndFive();
        hoardsAbove999();
        yolksOfOneAndTen();
        yolksOfNoSuchEggs();
        theftsOfNobody();
        theftsOfLikeOnes();
        basketsOfNothing();
        basketsOfTwelve();
        latestDays();
        latestOfTheLastDay();
        soonestNow();
        soonestOfSixtyDays();
        soonestAtTheEnd();
        soonestOfLikeOnes();
        soonestBeforeBad();
        barterNearer();
        barterOfNothing();
        Checks.end("SearchBoundsTest");
    }

    private static void due(String what, long got, long want) {
        Checks.due(what, got, want);
    }

    // "THE PLAN": no eggs, eggs that are worth nothing, works that can't be done
    private static void planOfNothing() {
        EggTown x = Towns.town("l0(1=1);tm(1=1)");
        x.work(0, 1, 999, 0);
        due("no eggs: WORTH", x.plan(0, 1, 0), 0);
        due("no eggs: EGGS", x.plan(0, 1, 1), 0);
        due("no eggs: bits", x.plan(0, 1, 10), 0);
        x.days(3);
        due("eggs of 0 minutes: WORTH", x.plan(0, 1, 0), 0);
        due("eggs of 0 minutes: EGGS", x.plan(0, 1, 1), 0);
        Checks.law(x, "t1(1=1)");
        due("one is enough: WORTH", x.plan(0, 1, 0), 999);
        due("one is enough: EGGS", x.plan(0, 1, 1), 1);
        due("the lowest", x.plan(0, 1, 10), 1);
        x.work(0, 3, 999, 0);
        due("all three", x.plan(0, 1, 10), 7);
        x.work(0, 4, 999, 0);
        due("four can't be", x.plan(0, 1, 0), 0);
        due("then none is taken", x.plan(0, 1, 10), 0);
        x.work(0, 1, 0, 0);
        due("WORTH 0: no EGGS", x.plan(0, 1, 1), 0);
        due("another person has none", x.plan(1, 1, 0), 0);
        due("works 0", x.plan(0, 0, 0), -1);
    }

    // "its WHOLE EGGS (the lowest 10)"
    private static void planOfTenEggs() {
        EggTown x = Towns.withEggs("tm(1=1)", 1, 1, 1, 1, 1, 1, 1, 1, 1, 1, 200, 200);
        x.work(0, 10, 5, 0);
        due("all ten", x.plan(0, 1, 10), 1023);
        x.work(0, 10, 1, 0);
        due("a WORTH of 1 is worth all ten", x.plan(0, 1, 0), 1);
        due("ten EGGS", x.plan(0, 1, 1), 10);
        x.work(0, 11, 5, 0);
        due("not the eleventh", x.plan(0, 1, 0), 0);
        Checks.acts(x, "(0+3).");
        due("it is among ten then", x.plan(0, 1, 0), 5);
        due("the bits are among those ten", x.plan(0, 1, 10), 256);
        Checks.acts(x, "(1+2)>1");
        due("given ones are not", x.plan(0, 1, 10), 64);
        due("the other's bits", x.plan(1, 1, 10), 0);
        x.work(0, 2, 5, 0);
        due("the other's two", x.plan(1, 1, 10), 3);
        EggTown halves = Towns.withLikeEggs("tm(1=1)", 11, 9);
        halves.work(0, 45, 1, 0);
        halves.work(1, 45, 1, 0);
        due("five of ten to the one", halves.plan(0, 3, 10), 31);
        due("five of ten to the other", halves.plan(0, 3, 11), 992);
        halves.work(1, 46, 1, 0);
        due("eleven are too many", halves.plan(0, 3, 0), 1);
    }

    // "each EGG to one WORK at most": four works for each of which the one large egg would do
    private static void planOfTheSameEgg() {
        EggTown x = Towns.withEggs("tm(1=1)", 10, 10, 10, 10, 10, 10, 10, 10, 10, 100);
        for (int i = 0; i < 4; i++) {
            x.work(i, 30 + 10 * i, 5, 0);
        }
        due("three of the four", x.plan(0, 15, 0), 15);
        due("the large one for that of most EGGS", x.plan(0, 15, 1), 3 + 4 + 1);
        due("three small ones for 0", x.plan(0, 15, 10), 7);
        due("four for 1", x.plan(0, 15, 11), 120);
        due("none for 2", x.plan(0, 15, 12), 0);
        due("the large one for 3", x.plan(0, 15, 13), 512);
        x.work(3, 60, 4, 0);
        due("one of less WORTH is left out", x.plan(0, 15, 13), 0);
        due("the large one for 2", x.plan(0, 15, 12), 512);
        x.work(3, 60, 20, 0);
        due("one of more WORTH has it", x.plan(0, 15, 13), 512);
        due("more WORTH", x.plan(0, 15, 0), 30);
    }

    // "told WORKS (1 to 4)"
    private static void planOfFourWorks() {
        EggTown x = Towns.withEggs("tm(1=1)", 10, 20, 30, 40);
        for (int i = 0; i < 8; i++) {
            x.work(i, 10 * (1 + i % 4), 1 + i, 0);
        }
        due("the highest four", x.plan(0, 240, 0), 5 + 6 + 7 + 8);
        due("four eggs", x.plan(0, 240, 1), 4);
        for (int i = 4; i < 8; i++) {
            due("work " + i, x.plan(0, 240, 10 + i), 1 << i - 4);
        }
        due("not among them", x.plan(0, 240, 13), -1);
        due("five", x.plan(0, 248, 0), -1);
        due("all eight", x.plan(0, 255, 0), -1);
        due("only the highest", x.plan(0, 128, 17), 8);
        due("four that are not side by side", x.plan(0, 0x99, 0), 4 + 5 + 8);
        due("18 is no row", x.plan(0, 240, 18), -1);
        due("9 is no row", x.plan(0, 240, 9), -1);
    }

    // "WORTH ... is most ...; of like ones the fewest EGGS, then the least row"
    private static void planOfLikeOnes() {
        EggTown x = Towns.withEggs("tm(1=1)", 10, 10, 20, 20);
        x.work(0, 20, 5, 0);
        x.work(1, 20, 5, 0);
        due("the fewest EGGS, then the least bits", x.plan(0, 1, 10), 4);
        due("both: row 0", x.plan(0, 3, 10), 4);
        due("both: row 1", x.plan(0, 3, 11), 8);
        x.work(1, 40, 5, 0);
        due("40 takes two", x.plan(0, 3, 11), 12);
        due("20 takes what is left", x.plan(0, 3, 10), 3);
        x.work(1, 50, 5, 0);
        due("one of them only", x.plan(0, 3, 0), 5);
        due("that with fewer EGGS", x.plan(0, 3, 1), 1);
        due("the one of 20", x.plan(0, 3, 10), 4);
        x.work(1, 50, 6, 0);
        due("more WORTH ahead of fewer EGGS", x.plan(0, 3, 0), 6);
        due("the least bits of three", x.plan(0, 3, 11), 13);
        x.work(0, 20, 3, 0);
        x.work(1, 20, 3, 0);
        x.work(2, 60, 3, 0);
        due("two of three", x.plan(0, 7, 0), 6);
        due("the last one is left out", x.plan(0, 7, 12), 0);
        EggTown y = Towns.withEggs("tm(1=1)", 30);
        y.work(0, 30, 5, 0);
        y.work(1, 30, 5, 0);
        due("like ones: the least row leaves work 0 out", y.plan(0, 3, 10), 0);
        due("and has work 1", y.plan(0, 3, 11), 1);
    }

    // "-2: one of them is done; NONE: no such ones"
    private static void planOfWorksThatAreDone() {
        EggTown x = Towns.withEggs("tm(1=1)", 10, 20, 30);
        x.work(0, 10, 5, 0);
        x.work(1, 21, 5, 0);
        Checks.acts(x, "0!0,1!1");
        due("it is done", x.plan(0, 1, 0), -2);
        due("one of two is", x.plan(0, 3, 11), -2);
        due("the other is not", x.plan(0, 2, 0), 5);
        due("one minute is missing", x.plan(0, 2, 11), 1);
        due("done, but no such person", x.plan(2, 1, 0), -1);
        due("done, but no such what", x.plan(0, 1, 2), -1);
        due("done, but another is not told", x.plan(0, 5, 0), -1);
    }

    // "(... of each only on DAYS ahead of the one in which it is BAD: b now; of b 0 on any)"
    private static void beforeTheDay() {
        for (int b = 1; b <= 6; b++) {
            EggTown x = Towns.withEggs("", 0, 0, 0, 60);
            Checks.law(x, "b" + b + "(1=1)");
            // It was laid on day 3 and THE DAY is 4.
            due("60 by b " + b, x.before(0, 8, 40), b >= 2 ? 60 : 0);
        }
        EggTown x = Towns.withEggs("", 60, 50);
        Checks.law(x, "b3(1=1)");
        due("one today, one tomorrow", x.before(0, 1, 40), 110);
        x.fox(0);
        x.days(1);
        due("the second only", x.before(0, 1, 40), 50);
        x.days(1);
        due("none is left", x.before(0, 1, 40), 0);
        Checks.law(x, "b0(1=1)");
        due("bad ones stay bad", x.before(0, 8, 40), 50);
    }

    // "so many can be BROKEN each DAY ... (1 to 8 ...)", "within so many DAYS (1 to 40)"
    private static void beforeWithinDays() {
        EggTown x = Towns.withLikeEggs("", 48, 10);
        for (int each = 1; each <= 8; each++) {
            for (int n : new int[] {1, 2, 5, 6, 7, 39, 40}) {
                due("before(0," + each + "," + n + ")", x.before(0, each, n), 10 * Math.min(48, each * n));
            }
        }
        due("each 0", x.before(0, 0, 40), -1);
        due("each 9", x.before(0, 9, 40), -1);
        due("no DAYS", x.before(0, 1, 0), -1);
        due("41 DAYS", x.before(0, 1, 41), -1);
    }

    private static void beforeOfMany() {
        EggTown x = Towns.withEggs("", 10, 20, 30, 40, 50);
        Checks.law(x, "b6(m<30);b7(1=1)");
        // THE DAY is 5: bad on 6, 7, 9, 10, 11.
        due("one DAY: the most", x.before(0, 1, 1), 50);
        due("two DAYS", x.before(0, 1, 2), 90);
        due("all but one of the first two", x.before(0, 1, 4), 50 + 40 + 30 + 20);
        due("five DAYS: all", x.before(0, 1, 5), 150);
        Checks.law(x, "b6-d+m/10(1=1)");
        // b 2 3 4 5 6: bad on 2, 4, 6, 8, 10.
        due("some are too late", x.before(0, 1, 9), 30 + 40 + 50);
        Checks.law(x, "b99(1=1)");
        due("40 DAYS are enough", x.before(0, 1, 40), 150);
        due("a person without eggs", x.before(1, 1, 1), 0);
        EggTown last = Towns.onDay(9999);
        last.person(0);
        due("on the last day, nothing", last.before(0, 8, 40), 0);
    }

    // "A FLOCK: h HENS (1 to 20) ... 20 at most in all"
    private static void flockOfTwenty() {
        EggTown x = new EggTown();
        for (int n = 1; n <= 12; n++) {
            due("20 HENS, hours", x.flock(20, n, 0), 20 * n);
            due("20 HENS, none is hatched", x.flock(20, n, 1), 0);
        }
        due("19: one at the most, two days", x.flock(19, 2, 1), 0);
        due("19: one at the most, three days", x.flock(19, 3, 0), 18 + 20 + 20);
        due("19: one is hatched", x.flock(19, 3, 1), 1);
        due("11: nine of eleven", x.flock(11, 3, 1), 9);
        due("10: all of them", x.flock(10, 3, 1), 10);
        due("10: hours", x.flock(10, 3, 0), 40);
        due("12 DAYS of one", x.flock(1, 12, 0), 0 + 0 + 0 + 0 + 12 + 7 * 20);
        due("12 DAYS of one, the first", x.flock(1, 12, 1), 1);
    }

    // "n DAYS (1 to 12) ... (of like ones the fewest)"
    private static void flockOfFewDays() {
        EggTown x = new EggTown();
        for (int h = 1; h <= 20; h++) {
            due("one DAY, hours", x.flock(h, 1, 0), h);
            due("one DAY, hatched", x.flock(h, 1, 1), 0);
            due("two DAYS, hours", x.flock(h, 2, 0), 2 * h);
            due("two DAYS: as many hours, so none is hatched", x.flock(h, 2, 1), 0);
        }
    }

    private static int rations(EggTown x, int m, int what, int... eggs) {
        Checks.feed(x, eggs);
        return x.rations(eggs.length, m, what);
    }

    // "told EGGS (1 to 8, WHOLE) to 2 or 3"
    private static void rationsOfOneAndEight() {
        EggTown x = Towns.withEggs("", 8, 7, 6, 5, 4, 3, 2, 1);
        due("one to two: the least has none", rations(x, 2, 10, 0), 0);
        due("one to three", rations(x, 3, 10, 0), 0);
        due("whose it is: the least row", rations(x, 3, 0, 0), 0);
        due("two to three: none again", rations(x, 3, 10, 0, 1), 0);
        due("two to three: the least row", rations(x, 3, 1, 0, 1), 0);
        due("two to two", rations(x, 2, 10, 0, 1), 7);
        due("two to two: the second", rations(x, 2, 1, 0, 1), 1);
        due("three to three", rations(x, 3, 10, 0, 1, 2), 6);
        due("three to three: the third", rations(x, 3, 2, 0, 1, 2), 2);
        due("eight to two", rations(x, 2, 10, 0, 1, 2, 3, 4, 5, 6, 7), 18);
        due("eight to three", rations(x, 3, 10, 0, 1, 2, 3, 4, 5, 6, 7), 12);
        int[] row = {0, 1, 2, 1, 0, 2, 2, 2};
        for (int k = 0; k < 8; k++) {
            due("eight to three: place " + k, rations(x, 3, k, 0, 1, 2, 3, 4, 5, 6, 7), row[k]);
        }
        due("a ninth place", rations(x, 3, 8, 0, 1, 2, 3, 4, 5, 6, 7), -3);
        due("place 9", rations(x, 3, 9, 0, 1, 2, 3, 4, 5, 6, 7), -3);
        due("the place behind the last", rations(x, 2, 2, 0, 1), -3);
        due("place 11", rations(x, 2, 11, 0, 1), -3);
        due("place -1", rations(x, 2, -1, 0, 1), -3);
        due("the least int", rations(x, 2, Integer.MIN_VALUE, 0, 1), -3);
        due("empty behind it", x.count(6), 0);
    }

    // "of like ones the least row"
    private static void rationsOfLikeOnes() {
        EggTown x = Towns.withEggs("", 5, 5, 5, 5, 0, 0);
        int[] row = {0, 0, 1, 1};
        int[] three = {0, 0, 1, 2};
        for (int k = 0; k < 4; k++) {
            due("four like ones to two", rations(x, 2, k, 0, 1, 2, 3), row[k]);
            due("four like ones to three", rations(x, 3, k, 3, 2, 1, 0), three[k]);
        }
        due("eggs of nothing: all to 0", rations(x, 3, 1, 4, 5), 0);
        due("eggs of nothing: the least", rations(x, 3, 10, 4, 5), 0);
        EggTown mine = Towns.withEggs("", 9, 9);
        Checks.acts(mine, "1>1");
        due("of whoever they are", rations(mine, 2, 10, 0, 1), 9);
        due("nothing is given", mine.egg(0, 3), 0);
    }

    // "-2: no such EGGS, one twice"
    private static void rationsOfNoSuchEggs() {
        EggTown x = Towns.withEggs("b1(m=20)", 10, 20, 30, 40);
        x.days(1);
        Checks.acts(x, "0.");
        due("a broken one", rations(x, 2, 10, 0), -2);
        due("a bad one", rations(x, 2, 10, 2, 1), -2);
        due("one that is not laid", rations(x, 2, 10, 2, 5), -2);
        due("47", rations(x, 2, 10, 47), -2);
        due("48", rations(x, 2, 10, 48), -2);
        due("255", rations(x, 2, 10, 255), -2);
        due("one twice, side by side", rations(x, 2, 10, 2, 2), -2);
        due("one twice, the first and the last", rations(x, 2, 10, 2, 3, 4, 2), -2);
        due("no such egg ahead of no such place", rations(x, 2, 99, 0), -2);
        due("empty then", x.count(6), 0);
        Checks.feed(x, 2, 3, 0, 0);
        due("only the first n count", x.rations(2, 2, 10), 30);
        Checks.feed(x, 2, 3);
        due("m 1", x.rations(2, 1, 10), -1);
        due("m 4", x.rations(2, 4, 10), -1);
        due("the tape stays", x.count(6), 20);
    }

    private static int hoards(EggTown x, int what, int... keeps) {
        int[] bytes = new int[2 * keeps.length];
        for (int k = 0; k < keeps.length; k++) {
            bytes[2 * k] = keeps[k] >> 8;
            bytes[2 * k + 1] = keeps[k];
        }
        Checks.feed(x, bytes);
        return x.hoards(keeps.length, what);
    }

    // "HOARDS: 2 to 5 each keep or sell ... rows ... at which nobody gains more alone: how many; the lowest"
    private static void hoardsOfTwoAndFive() {
        EggTown x = Towns.town("p100(1=1)");
        due("as much is no gain: all rows of two", hoards(x, 0, 100, 100), 4);
        due("the lowest is none", hoards(x, 1, 100, 100), 0);
        due("all rows of five", hoards(x, 0, 100, 100, 100, 100, 100), 32);
        due("one more: all sell", hoards(x, 1, 99, 99, 99, 99, 99), 31);
        due("one row", hoards(x, 0, 99, 99, 99, 99, 99), 1);
        due("one less: nobody", hoards(x, 0, 101, 101), 1);
        due("nobody is row 0", hoards(x, 1, 101, 101), 0);
        due("the fifth only", hoards(x, 1, 101, 101, 101, 101, 99), 16);
        EggTown none = Towns.town("p10(n=1);p0(1=1)");
        due("one of two, the first", hoards(none, 1, 5, 5), 1);
        due("no LAW: 0 is as much as 0", hoards(new EggTown(), 0, 0, 0), 4);
        due("no LAW: who keeps has more", hoards(new EggTown(), 1, 1, 1), 0);
        EggTown ring = Towns.town("p10*n(1=1)");
        due("the more the better: all or nobody", hoards(ring, 0, 15, 15), 2);
        due("with one who sells in any case: all", hoards(ring, 0, 15, 9), 1);
        due("then both", hoards(ring, 1, 15, 9), 3);
        EggTown never = Towns.town("p9(n=1);p3(n=2)");
        due("of two that differ", hoards(never, 1, 5, 2), 2);
    }

    // "-3: one above 999"
    private static void hoardsAbove999() {
        EggTown x = Towns.town("p999(1=1)");
        due("999", hoards(x, 0, 999, 999), 4);
        due("1000", hoards(x, 0, 1000, 0), -3);
        due("1000 as the last", hoards(x, 0, 0, 1000), -3);
        due("1000 of five", hoards(x, 0, 0, 0, 0, 0, 1000), -3);
        due("65535", hoards(x, 1, 65535, 0), -3);
        due("32768", hoards(x, 1, 32768, 0), -3);
        due("empty then", x.count(6), 0);
        Checks.feed(x, 0, 1, 0, 1, 255, 255);
        due("only the first n count", x.hoards(2, 1), 3);
        Checks.feed(x, 255, 255, 255, 255);
        due("no such what ahead of it", x.hoards(2, 2), -1);
        due("no such n ahead of it", x.hoards(1, 0), -1);
        due("the tape stays", x.count(6), 20);
        due("five of ten bytes each", x.hoards(5, 0), -3);
        EggTown none = Towns.town("p0(n=1);p9(n=2)");
        due("-2 is for none: here there are two", hoards(none, 1, 5, 5), 0);
    }

    private static int yolks(EggTown x, int minutes, int what, int... eggs) {
        Checks.feed(x, eggs);
        return x.yolks(eggs.length, minutes, what);
    }

    // "of told BROKEN EGGS (1 to 10), so many MINUTES are remembered together"
    private static void yolksOfOneAndTen() {
        EggTown x = Towns.withLikeEggs("", 12, 240);
        Checks.acts(x, "(0+1+2+3+4+5+6+7).,(8+9).");
        due("one, single", yolks(x, 240, 1, 0), 0);
        due("one, double", yolks(x, 480, 1, 0), 1);
        due("one, neither", yolks(x, 239, 1, 0), -2);
        due("one, neither: 0 sets", yolks(x, 481, 0, 0), 0);
        int[] ten = {0, 1, 2, 3, 4, 5, 6, 7, 8, 9};
        due("ten, all single", yolks(x, 2400, 0, ten), 1);
        due("ten, all single: the first", yolks(x, 2400, 1, ten), 0);
        due("ten, one double", yolks(x, 2640, 0, ten), 10);
        due("ten, one double: the first", yolks(x, 2640, 1, ten), 1);
        due("ten, five double", yolks(x, 3600, 0, ten), 252);
        due("ten, five double: the first", yolks(x, 3600, 1, ten), 31);
        due("ten, all double", yolks(x, 4800, 1, ten), 1023);
        due("more than all double", yolks(x, 4801, 1, ten), -2);
        due("9999", yolks(x, 9999, 0, ten), 0);
        due("0 minutes", yolks(x, 0, 0, ten), 0);
        EggTown nothing = Towns.withEggs("", 0, 0);
        Checks.acts(nothing, "0.,1.");
        due("eggs of nothing: all sets", yolks(nothing, 0, 0, 0, 1), 4);
        due("the first", yolks(nothing, 0, 1, 1, 0), 0);
    }

    // "-3: one is not BROKEN, one twice"
    private static void yolksOfNoSuchEggs() {
        EggTown x = Towns.withEggs("b1(m=20)", 10, 20, 30, 40);
        x.days(1);
        Checks.acts(x, "0.,3.");
        due("a whole one", yolks(x, 10, 0, 2), -3);
        due("a bad one", yolks(x, 10, 0, 0, 1), -3);
        due("one that is not laid", yolks(x, 10, 0, 0, 5), -3);
        due("48", yolks(x, 10, 0, 48), -3);
        due("255", yolks(x, 10, 0, 255), -3);
        due("one twice", yolks(x, 10, 0, 0, 0), -3);
        due("one twice, the first and the last", yolks(x, 10, 0, 0, 3, 0), -3);
        due("empty then", x.count(6), 0);
        Checks.feed(x, 0, 3, 2, 2);
        due("only the first n count", x.yolks(2, 60, 1), 1);
        Checks.feed(x, 2, 2);
        due("no such minutes ahead of it", x.yolks(2, 10000, 0), -1);
        due("no such what ahead of it", x.yolks(2, 60, 2), -1);
        due("no such n ahead of it", x.yolks(11, 60, 0), -1);
        due("the tape stays", x.count(6), 20);
    }

    // "10 who has most (of those above 0; -2: nobody ...)", "(may be below 0)", "-1000000000: no such ones"
    private static void theftsOfNobody() {
        EggTown x = new EggTown();
        due("no people: nobody", x.thefts(10), -2);
        due("no people: none", x.thefts(11), 0);
        due("no such person", x.thefts(0), NO_THEFT);
        x.person(0);
        due("0 is not above 0", x.thefts(10), -2);
        due("told", x.thefts(0), 0);
        EggTown y = Towns.withEggs("", 60);
        due("below 0", y.thefts(0), -60);
        due("nobody", y.thefts(10), -2);
        Checks.acts(y, "0.");
        due("all that was laid", y.thefts(0), 0);
        due("nobody still", y.thefts(10), -2);
        due("none still", y.thefts(11), 0);
        for (int what : new int[] {-1, 2, 7, 8, 9, 12, 13, 100}) {
            due("thefts(" + what + ")", y.thefts(what), NO_THEFT);
        }
    }

    // "of like ones the lowest", "how many have some"
    private static void theftsOfLikeOnes() {
        EggTown x = Towns.withEggs("h1+o(1=1)", 10, 10, 10);
        x.person(7);
        Checks.acts(x, "0>1,0*,0.");
        due("1 has two more", x.thefts(1), 2);
        due("just one", x.thefts(11), 1);
        due("it is 1", x.thefts(10), 1);
        Checks.acts(x, "1>7,1*,1.");
        due("7 has eight more", x.thefts(7), 8);
        due("the most", x.thefts(10), 7);
        due("two have some", x.thefts(11), 2);
        Checks.acts(x, "2*,2*,2*,2*,2*,2*,2*,2*,2.");
        due("0 has eight more, too", x.thefts(0), 8);
        due("the lowest of like ones", x.thefts(10), 0);
        due("three have some", x.thefts(11), 3);
    }

    // "how many sets (none of it is one, too)", "(-2: none)"
    private static void basketsOfNothing() {
        EggTown x = Towns.town("l0(1=1)");
        due("no eggs, 0 minutes", x.baskets(0, 0, 0), 1);
        due("no eggs: the empty set", x.baskets(0, 0, 1), 0);
        due("no eggs, 1 minute", x.baskets(0, 1, 0), 0);
        due("no eggs, 1 minute: none", x.baskets(0, 1, 1), -2);
        x.days(3);
        due("three eggs of nothing", x.baskets(0, 0, 0), 8);
        due("the fewest", x.baskets(0, 0, 1), 0);
        due("of another", x.baskets(1, 0, 0), 1);
    }

    // "(the lowest 12)", "(0 to 9999)", "the first one with fewest EGGS (of like ones the least bits)"
    private static void basketsOfTwelve() {
        EggTown x = Towns.withLikeEggs("", 13, 240);
        due("all twelve", x.baskets(0, 2880, 0), 1);
        due("all twelve: bits", x.baskets(0, 2880, 1), 4095);
        due("not thirteen", x.baskets(0, 3120, 0), 0);
        due("one of twelve", x.baskets(0, 240, 0), 12);
        due("the first", x.baskets(0, 240, 1), 1);
        due("six of twelve", x.baskets(0, 1440, 0), 924);
        due("9999", x.baskets(0, 9999, 1), -2);
        due("one minute less", x.baskets(0, 239, 1), -2);
        Checks.acts(x, "0.,1>1");
        due("eleven are left", x.baskets(0, 2640, 1), 2047);
        due("twelve are not", x.baskets(0, 2880, 0), 0);
        EggTown like = Towns.withEggs("", 10, 20, 30, 40, 50);
        due("one egg ahead of two", like.baskets(0, 50, 1), 16);
        due("two eggs: the least bits", like.baskets(0, 60, 1), 10);
        due("all of 60: 10+50, 20+40, 10+20+30", like.baskets(0, 60, 0), 3);
        due("three eggs of 100: 2+3+5 ahead of 1+4+5", like.baskets(0, 100, 1), 22);
    }

    // "(that one counts, too, and the one by which it must be done)", "-2: it is too late by THE DAY"
    private static void latestDays() {
        EggTown x = new EggTown();
        x.work(0, 999, 0, 998);
        due("999 DAYS, from 0 on", x.latest(0, 1), 0);
        x.work(0, 999, 0, 997);
        due("one DAY too few", x.latest(0, 1), -2);
        x.work(0, 1, 0, 0);
        due("today", x.latest(0, 1), 0);
        due("today, with more than it needs", x.latest(0, 999), 0);
        x.work(0, 10, 0, 5);
        int[] want = {-1, -2, 1, 2, 3, 4, 4, 4, 4, 4, 5, 5};
        for (int k = 0; k < want.length; k++) {
            due("10 by " + k + " a DAY", x.latest(0, k), want[k]);
        }
        due("1000 a DAY", x.latest(0, 1000), -1);
        x.days(4);
        due("4 is THE DAY", x.latest(0, 5), 4);
        due("3 would be too late", x.latest(0, 4), -2);
        x.days(2);
        due("behind its day", x.latest(0, 999), -2);
        EggTown y = Towns.withEggs("tm(1=1)", 60, 39);
        y.work(0, 100, 0, 9);
        Checks.acts(y, "0!0,1!0");
        due("one minute is missing", y.latest(0, 1), 9);
        y.work(1, 1, 0, 0);
        due("too late, not done", y.latest(1, 1), -2);
        due("no such k ahead of it", y.latest(1, 0), -1);
    }

    private static void latestOfTheLastDay() {
        EggTown x = Towns.onDay(9999);
        x.work(0, 999, 0, 9999);
        due("on the last day", x.latest(0, 999), 9999);
        due("a day more", x.latest(0, 998), -2);
        x.work(0, 999, 0, 9998);
        due("its day is gone", x.latest(0, 999), -2);
        EggTown y = Towns.withEggs("tm(1=1)", 60);
        y.work(0, 60, 0, 0);
        Checks.acts(y, "0!0");
        due("done, though later", y.latest(0, 1), -3);
        due("done, no such k", y.latest(0, 0), -1);
    }

    // "DAYS (0: now ...)"
    private static void soonestNow() {
        EggTown x = Towns.withEggs("l10(1=1);tm(1=1)", 60, 50);
        x.work(0, 110, 0, 0);
        due("all of them, now", x.soonest(0, 0), 0);
        x.work(0, 111, 0, 0);
        due("one minute is missing: one DAY", x.soonest(0, 0), 1);
        x.work(0, 120, 0, 0);
        due("just so", x.soonest(0, 0), 1);
        x.work(0, 121, 0, 0);
        due("two DAYS", x.soonest(0, 0), 2);
        due("no eggs, no hens", x.soonest(0, 1), -2);
        Checks.acts(x, "0!0");
        due("what is done counts, too", x.soonest(0, 0), 2);
        x.work(0, 60, 0, 0);
        Checks.acts(x, "1!0");
        due("ten are missing", x.soonest(0, 0), 1);
        due("nothing is broken by that", x.count(3), 2);
        x.work(0, 1, 0, 0);
        x.days(1);
        Checks.acts(x, "2!0");
        due("it is done", x.soonest(0, 0), -3);
        due("it is done, by 8", x.soonest(0, 8), -3);
        due("it is done, no such person", x.soonest(0, 9), -1);
    }

    // "(... 60 at most)", "-2: not within 60 DAYS (nobody)"
    private static void soonestOfSixtyDays() {
        for (int day = 58; day <= 61; day++) {
            EggTown x = Towns.town("l5(1=1);f10(d<" + (day - 1) + ");tm(1=1)");
            x.work(0, 5, 0, 0);
            due("laid behind " + day + " DAYS", x.soonest(0, 0), day <= 60 ? day : -2);
            due("by whom, behind " + day + " DAYS", x.soonest(0, 8), day <= 60 ? 0 : -2);
        }
        EggTown full = Towns.town("l1(1=1);tm(1=1)");
        full.work(0, 48, 0, 0);
        due("48 eggs", full.soonest(0, 0), 48);
        full.work(0, 49, 0, 0);
        due("no 49th", full.soonest(0, 0), -2);
        EggTown none = Towns.town("l1(1=1)");
        none.work(0, 1, 0, 0);
        due("t 0", none.soonest(0, 8), -2);
        EggTown nobody = new EggTown();
        nobody.work(0, 1, 0, 0);
        due("nobody is told", nobody.soonest(0, 8), -2);
        due("no such person", nobody.soonest(0, 0), -1);
    }

    // "THE DAY would be above 9999 by then"
    private static void soonestAtTheEnd() {
        EggTown x = Towns.onDay(9996);
        x.person(0);
        x.hen(0, 0, 0);
        Checks.law(x, "l5(1=1);tm(1=1)");
        x.work(0, 15, 0, 0);
        due("three DAYS: 9999", x.soonest(0, 0), 3);
        due("by whom", x.soonest(0, 8), 0);
        x.work(0, 16, 0, 0);
        due("a fourth DAY does not go by", x.soonest(0, 0), -2);
        due("nobody", x.soonest(0, 8), -2);
        x.days(3);
        due("now, on the last day", x.soonest(0, 0), -2);
        x.work(0, 15, 0, 0);
        due("now, with all three", x.soonest(0, 0), 0);
    }

    // "by 8: who of the told PEOPLE is soonest (of like ones the lowest)"
    private static void soonestOfLikeOnes() {
        EggTown x = new EggTown();
        x.person(2);
        x.person(5);
        x.person(7);
        x.hen(0, 0, 5);
        x.hen(1, 0, 7);
        Checks.law(x, "l5(1=1);tm(1=1)");
        x.work(0, 10, 0, 0);
        due("2 never", x.soonest(0, 2), -2);
        due("5", x.soonest(0, 5), 2);
        due("7", x.soonest(0, 7), 2);
        due("the lowest of like ones", x.soonest(0, 8), 5);
        x.hen(2, 0, 7);
        due("7 is sooner", x.soonest(0, 8), 7);
        x.hen(3, 0, 2);
        x.hen(4, 0, 2);
        due("2 is as soon", x.soonest(0, 8), 2);
        due("nothing goes by", x.count(0), 0);
    }

    /** Eggs that go bad before they are broken do not count; eggs of others take numbers. */
    private static void soonestBeforeBad() {
        EggTown x = Towns.withEggs("tm(1=1)", 60);
        x.fox(0);
        Checks.law(x, "tm(d>2)");
        x.work(0, 60, 0, 0);
        due("broken now for nothing, gone then", x.soonest(0, 0), -2);
        EggTown y = Towns.town("l1(1=1);tm(1=1)");
        for (int h = 1; h < 8; h++) {
            y.hen(h, 0, 1);
        }
        y.work(0, 6, 0, 0);
        due("six of 48", y.soonest(0, 0), 6);
        y.work(0, 7, 0, 0);
        due("the others have the rest", y.soonest(0, 0), -2);
        y.work(0, 42, 0, 0);
        due("42 of 48", y.soonest(0, 1), 6);
        y.work(0, 43, 0, 0);
        due("no 43rd", y.soonest(0, 1), -2);
    }

    // "exchanges of one EGG each by which both come nearer to that than they are"
    private static void barterNearer() {
        EggTown x = Towns.withEggs("", 50, 40);
        Checks.acts(x, "1>1");
        // 0 has 50, 1 has 40: the one exchange makes it 40 and 50.
        due("just so", x.barter(0, 1, 40, 50, 0), 1);
        due("nearer by 8", x.barter(0, 1, 44, 46, 0), 1);
        due("as far on the other side", x.barter(0, 1, 45, 45, 0), 0);
        due("one is as far only", x.barter(0, 1, 44, 45, 0), 0);
        due("the other is as far only", x.barter(0, 1, 45, 46, 0), 0);
        due("nearer by a minute each", x.barter(0, 1, 44, 46, 1), 0);
        due("b's egg", x.barter(0, 1, 44, 46, 2), 1);
        due("the way back", x.barter(1, 0, 50, 40, 1), 1);
        due("already there", x.barter(0, 1, 50, 40, 0), 0);
        due("9999 and 0: both go away", x.barter(0, 1, 9999, 0, 0), 0);
        due("0 and 9999", x.barter(0, 1, 0, 9999, 0), 1);
        due("10000", x.barter(0, 1, 10000, 0, 0), -1);
        due("-1", x.barter(0, 1, 0, -1, 0), -1);
        EggTown like = Towns.withEggs("", 50, 50);
        Checks.acts(like, "1>1");
        due("like eggs bring nobody nearer", like.barter(0, 1, 0, 9999, 0), 0);
    }

    // "1, 2 EGGS of a, b of the first (-2: none); NONE: no such ones, one twice"
    private static void barterOfNothing() {
        EggTown x = Towns.withEggs("", 50);
        due("b has no eggs", x.barter(0, 1, 0, 0, 0), 0);
        due("a has no eggs", x.barter(1, 0, 0, 0, 0), 0);
        due("no first of a", x.barter(0, 1, 0, 0, 1), -2);
        due("no first of b", x.barter(0, 1, 0, 0, 2), -2);
        due("one twice", x.barter(0, 0, 0, 0, 0), -1);
        due("what 3", x.barter(0, 1, 0, 0, 3), -1);
        EggTown y = Towns.withLikeEggs("", 48, 10);
        Checks.law(y, "h5(1=1)");
        Checks.acts(y, "(40+41+42+43+44+45+46+47)*,(40+41+42+43+44+45+46+47)>1");
        due("40 and 8 eggs: all pairs", y.barter(0, 1, 9999, 0, 0), 320);
        due("the first of a", y.barter(0, 1, 9999, 0, 1), 0);
        due("the first of b", y.barter(0, 1, 9999, 0, 2), 40);
        Checks.acts(y, "0.,40.");
        due("broken ones are not exchanged", y.barter(0, 1, 9999, 0, 0), 39 * 7);
        due("the first of b then", y.barter(0, 1, 9999, 0, 2), 41);
    }
}
