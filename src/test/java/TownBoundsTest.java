import java.util.Arrays;

/** The bounds that the document names for what a town holds: the tape, eggs, days, draws, what is kept and counted. */
public final class TownBoundsTest {
    private TownBoundsTest() {
    }

    public static void main(String[] args) {
        allTold();
        henInPlaceOfTheOneBefore();
        workInPlaceOfTheOneBefore();
        tapeOf260Bytes();
        bytesOfNumbers();
        eggNumbersAsTheyCome();
        fullWithinADay();
        cleanOfNothing();
        cleanOfAll();
        cleanInTheirOrder();
        cleanOfAFullTown();
        strikesAndLays();
        draws();
        badOnTheDay();
        badByTheLawNow();
        lastDays();
        lastDaysTried();
        triedOfAFullTown();
        triedLeavesNothing();
        eggsThatAreNoMore();
        peopleWithoutAnything();
        workByItsDay();
        seeds();
        keptLast();
        keptButTheLaw();
        checked();
        counted();
        Checks.end("TownBoundsTest");
    }

    private static void due(String what, long got, long want) {
        Checks.due(what, got, want);
    }

    private static void due(String what, boolean got, boolean want) {
        Checks.due(what, got, want);
    }

    /** All people and hens, hen y owned by person y, and a law. */
    private static EggTown eightHens(String law) {
        EggTown x = new EggTown();
        for (int p = 0; p < 8; p++) {
            x.person(p);
            x.hen(p, p % 4, p);
        }
        Checks.law(x, law);
        return x;
    }

    // "HENS 0 to 7", "PEOPLE 0 to 7", "WORKS 0 to 7": all of them at once
    private static void allTold() {
        EggTown x = eightHens("l5(1=1)");
        for (int i = 0; i < 8; i++) {
            due("work " + i, x.work(i, 1 + i, i, i), true);
        }
        due("people", x.count(8), 255);
        due("hens", x.count(9), 255);
        due("works", x.count(10), 255);
        for (int p = 0; p < 8; p++) {
            due("told already", x.person(p), false);
            due("kind", x.count(20 + p), p % 4);
            due("owner", x.count(30 + p), p);
            due("needs", x.workIs(p, 0), 1 + p);
            due("foxes", x.fox(p), true);
            due("no such one any more", x.fox(p), false);
        }
        due("none is left", x.count(9), 0);
        due("no eggs then", x.days(5), 0);
    }

    // "A HEN (in place of the one before)"
    private static void henInPlaceOfTheOneBefore() {
        EggTown x = Towns.town("l5(1=1)");
        x.days(1);
        due("another", x.hen(0, 3, 1), true);
        due("one hen", x.count(9), 1);
        due("0 has none", x.personIs(0, 6), 0);
        due("1 has it", x.personIs(1, 6), 1);
        x.days(1);
        due("laid for 0", x.personIs(0, 1), 5);
        due("laid for 1", x.personIs(1, 1), 5);
        due("the first egg's owner", x.egg(0, 3), 0);
        due("the same once more", x.hen(0, 3, 1), true);
        x.fox(0);
        due("behind a fox", x.hen(0, 2, 0), true);
    }

    // "A WORK (in place of the one before; nothing of it is done)"
    private static void workInPlaceOfTheOneBefore() {
        EggTown x = Towns.withEggs("tm(1=1)", 60, 60);
        x.work(0, 60, 1, 0);
        Checks.acts(x, "0!0");
        due("done, but later", x.workIs(0, 5), 0);
        due("the same anew", x.work(0, 60, 1, 2), true);
        due("not done", x.workIs(0, 4), 0);
        due("nothing of it", x.workIs(0, 1), 0);
        due("can still be", x.workIs(0, 5), 1);
        due("one work", x.count(10), 1);
    }

    // "how many it has; NONE if that would be more than 260"
    private static void tapeOf260Bytes() {
        EggTown x = new EggTown();
        due("empty at first", x.count(6), 0);
        for (int k = 1; k <= 13; k++) {
            due("feed " + k, x.feed(k, k, k, k, k), 20 * k);
        }
        due("280 would be too many", x.feed(1, 1, 1, 1, 1), -1);
        due("and again", x.feed(1, 1, 1, 1, 1), -1);
        due("it has 260", x.count(6), 260);
        due("a call that empties it", x.check(0), -1);
        due("a new tape", x.feed(1, 1, 1, 1, 1), 20);
    }

    // "Twenty bytes come behind the tape, the highest of each int first"
    private static void bytesOfNumbers() {
        EggTown x = Towns.withEggs("", 200, 0, 0, 0, 255 % 240);
        x.feed(200, 0, 0, 0, 15);
        due("five numbers", x.check(5), -1);
        x.feed(200, 0, 0, 0, 15);
        x.feed(0, 0, 0, 0, 1);
        due("the second feed stands behind the first", x.check(10), 9);
        x.feed(0x80000000, 0, 0, 0, 0);
        due("a number below 0", x.check(1), 0);
        x.feed(-1, -1, -1, -1, -1);
        due("bytes above 127 can't stand in a law", x.law(20), -1000);
        x.feed(0x000000C8, 0, 0, 0, 0);
        due("the first byte is the highest", x.rations(1, 2, 10), 0);
        x.feed(0x04000000, 0, 0, 0, 0);
        due("egg 4 of 15 minutes, to one of two", x.rations(1, 2, 10), 0);
        x.feed(0x00040000, 0, 0, 0, 0);
        due("eggs 0 and 4", x.rations(2, 2, 10), 15);
    }

    // "EGGS 0 to 47: ... (numbers as they come, the lowest first; those that are gone are not used again until all is
    // emptied by clean())"
    private static void eggNumbersAsTheyCome() {
        EggTown x = eightHens("l5(1=1);b1(1=1)");
        due("the first day", x.days(1), 8);
        for (int i = 0; i < 8; i++) {
            due("the hen of egg " + i, x.egg(i, 2), i);
            due("the owner of egg " + i, x.egg(i, 3), i);
        }
        due("five days more", x.days(5), 40);
        due("all 48 laid", x.count(1), 48);
        due("those before are bad", x.count(4), 40);
        due("bad ones are not used again", x.days(1), 0);
        due("all are bad", x.count(4), 48);
        due("nor now", x.days(60), 0);
        due("until clean()", x.clean(), 48);
        due("from 0 on", x.days(1), 8);
        due("the first", x.egg(0, 1), 67);
        due("no ninth", x.egg(8, 0), -1);
    }

    // "if no EGG is left, nothing, and no DRAW"
    private static void fullWithinADay() {
        EggTown x = eightHens("l5(1=1)");
        x.days(5);
        for (int y = 1; y < 8; y++) {
            x.fox(y);
        }
        x.days(7);
        due("47 eggs", x.count(1), 47);
        for (int y = 1; y < 8; y++) {
            x.hen(y, 0, y);
        }
        int before = x.count(7);
        due("one of eight lays", x.days(1), 1);
        due("two draws of it, one of each other", x.count(7), Towns.xBehind(before, 2 + 7));
        due("48 eggs", x.count(1), 48);
        due("it was the first hen", x.egg(47, 2), 0);
        due("laid for the others as before", x.personIs(1, 1), 25);
        due("the day goes by", x.count(0), 13);
        before = x.count(7);
        due("none is left", x.days(1), 0);
        due("one draw of each", x.count(7), Towns.xBehind(before, 8));
        Checks.law(x, "f10(1=1)");
        due("they strike all the same", x.tried(1, 3), 8);
    }

    // "EGGS that are not WHOLE are gone ...: how many were not WHOLE"
    private static void cleanOfNothing() {
        EggTown x = new EggTown();
        due("a new one", x.clean(), 0);
        EggTown y = Towns.withLikeEggs("", 48, 5);
        due("all are whole", y.clean(), 0);
        due("48 still", y.count(1), 48);
        due("no room is made", y.days(1), 0);
    }

    private static void cleanOfAll() {
        EggTown x = Towns.withLikeEggs("b1(1=1)", 2, 5);
        Checks.acts(x, "1.");
        due("one broken, one bad", x.clean(), 2);
        due("none", x.count(1), 0);
        due("no egg 0", x.egg(0, 0), -1);
        due("lived stays", x.personIs(0, 0), 5);
        due("laid stays", x.personIs(0, 1), 10);
        due("once more", x.clean(), 0);
    }

    // "the others have the lowest numbers, in their order"
    private static void cleanInTheirOrder() {
        EggTown x = Towns.withEggs("h7(1=1)", 10, 20, 30, 40, 50, 60);
        Checks.acts(x, "5*,3>1,(0+2+4).");
        due("three were not", x.clean(), 3);
        int[][] want = {{20, 1, 0, 0, 0, 0}, {40, 3, 0, 1, 0, 0}, {67, 5, 0, 0, 1, 0}};
        for (int i = 0; i < 3; i++) {
            for (int what = 0; what < 6; what++) {
                due("egg(" + i + "," + what + ")", x.egg(i, what), want[i][what]);
            }
        }
        due("no fourth", x.egg(3, 0), -1);
        due("acts see the new numbers", Checks.acts(x, "3.,2."), 1);
        due("1 has its egg", x.personIs(1, 5), 40);
        Checks.law(x, "l9(1=1)");
        x.days(1);
        due("the next number", x.egg(3, 0), 9);
        x.days(2);
        due("a number whose egg was brooded before", x.egg(5, 4), 0);
        due("a number whose egg was broken before", x.egg(4, 5), 0);
        EggTown y = eightHens("l9(1=1)");
        y.days(1);
        Checks.acts(y, "(0+1+2+5).");
        y.clean();
        int[] hens = {3, 4, 6, 7};
        for (int i = 0; i < 4; i++) {
            due("the hen of what was egg " + hens[i], y.egg(i, 2), hens[i]);
            due("the owner of what was egg " + hens[i], y.egg(i, 3), hens[i]);
        }
    }

    private static void cleanOfAFullTown() {
        EggTown x = Towns.withLikeEggs("", 48, 5);
        Checks.acts(x, "47.");
        due("full still", x.days(1), 0);
        due("the last one goes", x.clean(), 1);
        due("room for one", x.days(3), 1);
        due("the day it was laid", x.egg(47, 1), 49);
        Checks.acts(x, "0.");
        due("the first one goes", x.clean(), 1);
        due("47 are left", x.count(1), 47);
        due("the last of them", x.egg(46, 1), 49);
        due("none is 47", x.egg(47, 0), -1);
    }

    // "with a DRAW, below f ... it strikes, else it lays: with another DRAW l MINUTES"
    private static void strikesAndLays() {
        EggTown x = Towns.town("f5(1=1);lr(1=1)");
        x.seed(Towns.seedOf(4));
        int before = x.count(7);
        due("4 is below 5", x.days(1), 0);
        due("one draw", x.count(7), Towns.nextX(before));
        x.seed(Towns.seedOf(5));
        before = x.count(7);
        due("5 is not", x.days(1), 1);
        due("two draws", x.count(7), Towns.xBehind(before, 2));
        due("r is the other draw", x.egg(0, 0), Towns.xBehind(before, 2) % 10);
        due("laid for it", x.personIs(0, 1), x.egg(0, 0));
    }

    // "X = (25173 X + 13849) modulo 65536 (X is THE SEED at first, 1): X modulo 10"
    private static void draws() {
        for (int seed : new int[] {0, 1, 2, 3, 32767, 32768, 52225, 65534, 65535}) {
            EggTown x = Towns.town("lr(1=1)");
            x.seed(seed);
            for (int k = 0; k < 20; k++) {
                int then = Towns.xBehind(x.count(7), 2);
                x.days(1);
                due("X behind a day from " + seed, x.count(7), then);
                due("the egg's draw", x.egg(k, 0), then % 10);
            }
        }
        EggTown x = Towns.town("");
        x.days(1);
        due("X of two draws from 1 on", x.count(7), 61087);
    }

    // "Each WHOLE EGG, by numbers, that was laid b DAYS ago or more (b above 0; THE DAY as it is) is BAD."
    private static void badOnTheDay() {
        for (int b = 1; b <= 60; b += 1 + b / 4) {
            EggTown x = Towns.town("l5(1=1);b" + b + "(1=1)");
            x.days(1);
            x.fox(0);
            due("first day by " + b, x.egg(0, 6), b);
            if (b > 1) {
                x.days(b - 1);
            }
            due("whole till then by " + b, x.egg(0, 5), 0);
            due("THE DAY by " + b, x.count(0), b);
            due("one goes bad by " + b, x.tried(1, 2), 1);
            x.days(1);
            due("bad by " + b, x.egg(0, 5), 2);
        }
        EggTown x = Towns.town("l5(1=1);b99(1=1)");
        x.days(1);
        x.fox(0);
        x.days(60);
        x.days(38);
        due("whole on day 99", x.egg(0, 5), 0);
        x.days(1);
        due("bad behind it", x.egg(0, 5), 2);
        EggTown none = Towns.town("l5(1=1);b1+50*i+50*n+50*r(1=1)");
        due("no WORK, no DRAW, nobody sells in b", none.tried(9, 2), 8);
        EggTown broken = Towns.town("l5(1=1);b1(1=1)");
        broken.days(1);
        Checks.acts(broken, "0.");
        due("a broken one does not go bad", broken.tried(3, 2), 2);
    }

    // "b now": a law that comes later counts for eggs that were laid before it
    private static void badByTheLawNow() {
        EggTown x = Towns.withLikeEggs("", 9, 5);
        Checks.law(x, "b2(1=1);f10(1=1)");
        due("laid on 0, bad on 2, though it is 9", x.egg(0, 6), 2);
        due("whole as yet", x.egg(0, 5), 0);
        due("seven at once, and one that is just old enough", x.tried(1, 2), 8);
        x.days(1);
        due("the last is one day old", x.egg(8, 5), 0);
        Checks.law(x, "l5(1=1)");
        due("bad ones stay bad", x.egg(0, 5), 2);
        due("never, by b now", x.egg(0, 6), -2);
    }

    // "THE DAY is one more (9999 at most: then none goes by)", "DAYS (1 to 60) go by (as many as can)"
    private static void lastDays() {
        EggTown x = Towns.onDay(9997);
        x.person(0);
        x.hen(0, 0, 0);
        Checks.law(x, "l5(1=1);b1(1=1)");
        due("two of three", x.days(3), 2);
        due("the last day", x.count(0), 9999);
        due("laid on the last but one", x.egg(1, 1), 9998);
        int draw = x.count(7);
        due("none goes by", x.days(1), 0);
        due("none of sixty", x.days(60), 0);
        due("no draw", x.count(7), draw);
        due("none goes bad", x.egg(1, 5), 0);
        due("the day stays", x.count(0), 9999);
        due("no such n all the same", x.days(0), -1);
        due("no such n", x.days(61), -1);
        x.work(0, 5, 0, 9999);
        due("it can still be", x.workIs(0, 5), 1);
        EggTown y = Towns.onDay(9998);
        due("the last that goes by", y.days(1), 0);
        due("9999", y.count(0), 9999);
        due("undone behind it", y.undo(), false);
    }

    // "DAYS (1 to 60; as many as can) that are tried"
    private static void lastDaysTried() {
        EggTown x = Towns.onDay(9990);
        x.person(0);
        x.hen(0, 0, 0);
        Checks.law(x, "l5(1=1);b3(1=1)");
        due("nine", x.tried(60, 0), 9);
        due("nine of ten", x.tried(10, 0), 9);
        due("their minutes", x.tried(60, 1), 45);
        due("bad ones", x.tried(60, 2), 6);
        due("whole then", x.tried(60, 4), 3);
        Checks.law(x, "f10(1=1)");
        due("strikes", x.tried(60, 3), 9);
        x.days(9);
        due("none is tried", x.tried(1, 3), 0);
        due("whole ones as they are", x.tried(60, 4), x.count(2));
    }

    private static void triedOfAFullTown() {
        EggTown x = Towns.withLikeEggs("b60(1=1)", 48, 5);
        due("no egg is left", x.tried(1, 0), 0);
        due("no minutes", x.tried(1, 1), 0);
        due("no strikes", x.tried(12, 3), 0);
        due("the first goes bad on day 60", x.tried(12, 2), 0);
        due("behind 13 days", x.tried(13, 2), 1);
        due("whole then", x.tried(13, 4), 47);
        due("all of them in the end", x.tried(60, 2), 48);
        due("none is whole then", x.tried(60, 4), 0);
    }

    // "TRIED are n DAYS by the DRAWS that will come": nothing of it stays
    private static void triedLeavesNothing() {
        EggTown x = eightHens("l9+r(1=1);f3(k=1);b2(1=1)");
        x.days(2);
        int[] before = Towns.all(x);
        for (int what = 0; what < 5; what++) {
            x.tried(60, what);
        }
        due("nothing changed", Arrays.equals(before, Towns.all(x)), true);
        int eggs = x.tried(3, 0);
        due("those draws come", x.days(3), eggs);
    }

    // "Of a laid EGG ...; NONE for others", for each state of an egg
    private static void eggsThatAreNoMore() {
        EggTown x = Towns.withEggs("b4(d=9)", 10, 20, 30);
        for (int what = -1; what < 8; what++) {
            due("an egg that is not laid", x.egg(3, what), -1);
            due("the last number", x.egg(47, what), -1);
            due("no such number", x.egg(48, what), -1);
        }
        Checks.acts(x, "1.");
        due("a broken one is told", x.egg(1, 0), 20);
        due("how it is", x.egg(1, 5), 1);
        due("never bad by b now", x.egg(1, 6), -2);
        Checks.law(x, "b4(1=1)");
        due("by b now, though it is broken", x.egg(1, 6), 5);
        EggTown full = Towns.withLikeEggs("", 48, 7);
        due("egg 47", full.egg(47, 0), 7);
        due("egg 48", full.egg(48, 0), -1);
    }

    // "Of a told PERSON ...; NONE for others"
    private static void peopleWithoutAnything() {
        EggTown x = new EggTown();
        x.person(3);
        for (int what = 0; what < 7; what++) {
            due("nothing yet", x.personIs(3, what), 0);
            due("not told", x.personIs(2, what), -1);
        }
        due("what 7", x.personIs(3, 7), -1);
        EggTown y = Towns.withLikeEggs("b1(d=48)", 48, 240);
        due("48 whole eggs", y.personIs(0, 4), 48);
        due("their minutes", y.personIs(0, 5), 48 * 240);
        y.days(1);
        due("bad ones are not counted", y.personIs(0, 4), 0);
        due("nor their minutes", y.personIs(0, 5), 0);
        due("laid stays", y.personIs(0, 1), 48 * 240);
    }

    // "whether that was so by its DAY or can still be (1, 0: THE DAY is above it and it is not done, or was done
    // later)"
    private static void workByItsDay() {
        EggTown x = Towns.withEggs("tm(1=1)", 60, 60, 60, 60);
        x.work(0, 60, 0, 4);
        x.work(1, 60, 0, 3);
        x.work(2, 61, 0, 4);
        x.work(3, 60, 0, 5);
        due("on its day, not done", x.workIs(0, 5), 1);
        due("a day above it", x.workIs(1, 5), 0);
        Checks.acts(x, "0!0,1!1,2!2");
        due("done on its day", x.workIs(0, 5), 1);
        due("done a day later", x.workIs(1, 5), 0);
        due("one minute is missing, on its day", x.workIs(2, 5), 1);
        x.days(1);
        due("done on its day, a day later", x.workIs(0, 5), 1);
        due("done later stays so", x.workIs(1, 5), 0);
        due("one minute is missing, a day later", x.workIs(2, 5), 0);
        due("its day is today", x.workIs(3, 5), 1);
        Checks.acts(x, "3!2");
        due("it is done now", x.workIs(2, 4), 1);
        due("but later", x.workIs(2, 5), 0);
        x.days(1);
        due("its day was yesterday", x.workIs(3, 5), 0);
    }

    // "THE SEED (0 to 65535; X, too)"
    private static void seeds() {
        EggTown x = Towns.town("");
        due("1 at first", x.count(7), 1);
        due("0", x.seed(0), true);
        x.days(1);
        due("from 0 on", x.count(7), Towns.xBehind(0, 2));
        due("65535", x.seed(65535), true);
        due("X", x.count(7), 65535);
        due("65536", x.seed(65536), false);
        due("-1", x.seed(-1), false);
        due("X still", x.count(7), 65535);
        x.keep();
        x.seed(7);
        x.undo();
        due("undone", x.count(7), 65535);
    }

    // "UNDONE: as it was KEPT last", "false: none was KEPT"
    private static void keptLast() {
        EggTown x = new EggTown();
        due("none", x.undo(), false);
        due("a new one is kept", x.keep(), 0);
        x.person(0);
        x.hen(0, 0, 0);
        x.days(4);
        due("undone", x.undo(), true);
        due("as a new one", Arrays.equals(Towns.all(x), Towns.all(new EggTown())), true);
        x.person(0);
        x.hen(0, 0, 0);
        x.days(4);
        due("four whole", x.keep(), 4);
        Checks.acts(x, "0.");
        due("three whole", x.keep(), 3);
        Checks.acts(x, "1.");
        due("undone", x.undo(), true);
        due("the last one", x.count(2), 3);
        due("undone again", x.undo(), true);
        due("the same", x.count(2), 3);
        keptAll();
        EggTown y = Towns.withLikeEggs("", 48, 5);
        due("all 48", y.keep(), 48);
        Checks.acts(y, "(0+1).");
        y.clean();
        y.days(1);
        y.undo();
        due("full again", y.days(1), 0);
    }

    private static EggTown busy() {
        EggTown x = eightHens("l9+y(1=1);tm(1=1);h3(1=1);b2(y=6)");
        x.work(3, 20, 5, 4);
        x.work(4, 500, 6, 9);
        x.days(4);
        Checks.acts(x, "0.,1!3,9!3,2>5,(3+4)*,10!4,11>0");
        x.seed(77);
        x.feed(1, 2, 3, 4, 5);
        return x;
    }

    /** Each thing that a town holds is changed behind keep(), and is as it was behind undo(). */
    private static void keptAll() {
        EggTown x = busy();
        int[] want = Towns.all(x);
        x.keep();
        x.check(0);
        for (int y = 0; y < 7; y++) {
            x.hen(y, 3 - y % 4, 7 - y);
        }
        x.fox(7);
        Checks.acts(x, "12.,13!4,14>2,15*,16>7,(17+18)!4,2>1,3>0,11*");
        x.clean();
        x.days(9);
        x.work(3, 7, 8, 9);
        x.work(4, 1, 1, 1);
        x.work(5, 1, 1, 1);
        Checks.acts(x, "0>1,1>2,2!4,3!3,4*,5*,6.");
        due("undone", x.undo(), true);
        due("all of it", Arrays.equals(Towns.all(x), want), true);
    }

    // "KEPT: all but THE LAW"
    private static void keptButTheLaw() {
        EggTown x = Towns.town("l5(1=1)");
        x.feed(0x306C312E, 0, 0, 0, 0);
        x.keep();
        x.check(0);
        Checks.law(x, "l7(1=1);l8(1=1)");
        x.undo();
        due("the law is the new one", x.count(5), 2);
        x.days(1);
        due("and lays", x.egg(0, 0), 7);
        due("the tape is back", x.count(6), 20);
        due("with its bytes: 0 and l", x.acts(2), -1001);
    }

    // "CHECK: MINUTES of EGGS (of those not laid 0): right, or the first number that is not so", "(0 to 48; ...)"
    private static void checked() {
        EggTown x = Towns.withLikeEggs("", 48, 7);
        int[] sevens = new int[192];
        for (int k = 3; k < 192; k += 4) {
            sevens[k] = 7;
        }
        Checks.feed(x, sevens);
        due("48 numbers", x.check(48), -1);
        due("empty then", x.count(6), 0);
        for (int place : new int[] {0, 1, 46, 47}) {
            for (int b = 0; b < 4; b++) {
                int[] wrong = sevens.clone();
                wrong[4 * place + b] ^= 128;
                Checks.feed(x, wrong);
                due("a wrong byte " + b + " at " + place, x.check(48), place);
                Checks.feed(x, wrong);
                due("only those ahead of it", x.check(place), -1);
            }
        }
        due("no numbers", x.check(0), -1);
        due("48 of none", x.check(48), -2);
        Checks.feed(x, new int[260]);
        due("49", x.check(49), -2);
        due("the tape stays", x.count(6), 260);
        due("none of 260 bytes", x.check(0), -1);
        due("empty then, too", x.count(6), 0);
        EggTown none = new EggTown();
        Checks.feed(none, new int[200]);
        due("none is laid: 0", none.check(48), -1);
    }

    // "NONE for others", "20 + y the KIND, 30 + y the OWNER of told HEN y"
    private static void counted() {
        EggTown x = Towns.withEggs("b1(m=20)", 10, 20, 30);
        x.days(1);
        Checks.acts(x, "0.");
        due("laid", x.count(1), 4);
        due("whole", x.count(2), 2);
        due("broken", x.count(3), 1);
        due("bad", x.count(4), 1);
        x.clean();
        due("laid, behind clean()", x.count(1), 2);
        due("broken, behind clean()", x.count(3), 0);
        due("bad, behind clean()", x.count(4), 0);
        due("told hen 0", x.count(20), 1);
        due("its owner", x.count(30), 0);
        x.fox(0);
        due("a hen that is gone", x.count(20), -1);
        due("its owner, too", x.count(30), -1);
        for (int what : new int[] {-1, 11, 12, 19, 21, 27, 28, 29, 31, 37, 38, 39, 40, 100}) {
            due("count(" + what + ")", x.count(what), -1);
        }
    }
}
