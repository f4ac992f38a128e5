import java.util.Arrays;

/**
 * The ranges that the document names for each call: their ends are taken, what is too small, too large or wraps around
 * to a number that would fit is refused; and "A call that is refused (NONE, false) changes nothing but the tape, where
 * it is told."
 */
public final class RefusedTest {
    private static final int NO_THEFT = -1000000000;
    private static final int EGGS = 14;
    private static final String LAW = "l60+r(1=1);b9+k(1=1);h9(1=1);tm(1=1);p99/n(1=1)";

    private interface Call {
        long on(EggTown x, int... told);
    }

    private RefusedTest() {
    }

    public static void main(String[] args) {
        told();
        texts();
        days();
        asked();
        searched();
        fromTheTape();
        tapeTooShort();
        rest();
        Checks.end("RefusedTest");
    }

    /** People, hens and works 0 to 6, fourteen eggs that are whole but for the first three, something kept. */
    private static EggTown busy(int... tape) {
        EggTown x = new EggTown();
        for (int p = 0; p < 7; p++) {
            x.person(p);
        }
        for (int k = 0; k < 7; k++) {
            x.hen(k, k % 4, 6 - k);
            x.work(k, 100 + 100 * k, k, 10 * k);
        }
        Checks.law(x, LAW);
        x.days(1);
        x.keep();
        x.days(1);
        Checks.acts(x, "(0+1+2).,3>1,4*,5>0");
        Checks.feed(x, tape);
        return x;
    }

    private static int[] outside(int least, int most) {
        return new int[] {least - 1, most + 1, least - 2, most + 2, least - 8, most + 8, least - 32, most + 32,
            least - 64, most + 64, least - 256, most + 256, least - 65536, most + 65536, least + Integer.MIN_VALUE,
            most + Integer.MIN_VALUE, Integer.MIN_VALUE, Integer.MIN_VALUE + 1, Integer.MAX_VALUE - 1,
            Integer.MAX_VALUE};
    }

    private static boolean isWithin(int number, int[] ranges) {
        for (int k = 0; k < ranges.length; k += 2) {
            if (number >= ranges[k] && number <= ranges[k + 1]) {
                return true;
            }
        }
        return false;
    }

    /** Each number in turn at the ends of its ranges and outside of the first one, the others as they are given. */
    private static void ranges(String name, long refused, int[] tape, int[] given, int[][] ranges, Call call) {
        for (int j = 0; j < given.length; j++) {
            for (int end : ranges[j]) {
                int[] told = given.clone();
                told[j] = end;
                Checks.due(name + Arrays.toString(told) + " is taken", call.on(busy(tape), told) == refused, false);
            }
            for (int wrong : outside(ranges[j][0], ranges[j][1])) {
                if (!isWithin(wrong, ranges[j])) {
                    int[] told = given.clone();
                    told[j] = wrong;
                    isRefused(name, refused, tape, told, call);
                }
            }
        }
    }

    private static void isRefused(String name, long refused, int[] tape, int[] told, Call call) {
        EggTown x = busy(tape);
        String what = name + Arrays.toString(told);
        Checks.due(what, call.on(x, told), refused);
        leftAlone(what, x, busy(tape));
    }

    /** Nothing tells a town that was asked what it refuses from one that was not. */
    private static void leftAlone(String what, EggTown x, EggTown y) {
        Checks.due(what + " changes nothing", Arrays.equals(Towns.all(x), Towns.all(y)), true);
        Checks.due(what + ", clauses", x.count(5), y.count(5));
        Checks.due(what + ", b", x.egg(7, 6), y.egg(7, 6));
        Checks.due(what + ", the tape's bytes", x.law(x.count(6)), y.law(y.count(6)));
        Checks.due(what + ", draws", x.days(3), y.days(3));
        Checks.due(what + ", then", Arrays.equals(Towns.all(x), Towns.all(y)), true);
        Checks.due(what + ", undone", x.undo(), y.undo());
        Checks.due(what + ", what was kept", Arrays.equals(Towns.all(x), Towns.all(y)), true);
    }

    private static long bit(boolean answer) {
        return answer ? 1 : 0;
    }

    private static void told() {
        int[] none = {};
        ranges("person", 0, none, new int[] {7}, new int[][] {{7, 7}}, (x, t) -> bit(x.person(t[0])));
        for (int p = 0; p < 7; p++) {
            isRefused("person", 0, none, new int[] {p}, (x, t) -> bit(x.person(t[0])));
        }
        ranges("hen", 0, none, new int[] {7, 0, 0}, new int[][] {{0, 7}, {0, 3}, {0, 6}},
            (x, t) -> bit(x.hen(t[0], t[1], t[2])));
        ranges("fox", 0, none, new int[] {3}, new int[][] {{0, 6}}, (x, t) -> bit(x.fox(t[0])));
        ranges("work", 0, none, new int[] {7, 5, 5, 5}, new int[][] {{0, 7}, {1, 999}, {0, 999}, {0, 9999}},
            (x, t) -> bit(x.work(t[0], t[1], t[2], t[3])));
        ranges("seed", 0, none, new int[] {5}, new int[][] {{0, 65535}}, (x, t) -> bit(x.seed(t[0])));
    }

    private static void texts() {
        int[] full = new int[260];
        Arrays.fill(full, 'x');
        ranges("law", -1, full, new int[] {5}, new int[][] {{1, 240}}, (x, t) -> x.law(t[0]));
        ranges("acts", -1, full, new int[] {5}, new int[][] {{1, 140}}, (x, t) -> x.acts(t[0]));
        ranges("judged", -1, full, new int[] {5}, new int[][] {{1, 140}}, (x, t) -> x.judged(t[0]));
        ranges("check", -2, full, new int[] {5}, new int[][] {{0, 48}}, (x, t) -> x.check(t[0]));
        isRefused("feed behind 260 bytes", -1, full, new int[5], (x, t) -> x.feed(t[0], t[1], t[2], t[3], t[4]));
        isRefused("feed behind 260 bytes", -1, full, new int[] {-1, -1, -1, -1, -1},
            (x, t) -> x.feed(t[0], t[1], t[2], t[3], t[4]));
    }

    private static void days() {
        int[] none = {};
        ranges("days", -1, none, new int[] {5}, new int[][] {{1, 60}}, (x, t) -> x.days(t[0]));
        ranges("tried", -1, none, new int[] {5, 2}, new int[][] {{1, 60}, {0, 4}}, (x, t) -> x.tried(t[0], t[1]));
    }

    private static void asked() {
        int[] none = {};
        ranges("egg", -1, none, new int[] {5, 2}, new int[][] {{0, EGGS - 1}, {0, 6}}, (x, t) -> x.egg(t[0], t[1]));
        ranges("personIs", -1, none, new int[] {5, 2}, new int[][] {{0, 6}, {0, 6}},
            (x, t) -> x.personIs(t[0], t[1]));
        ranges("workIs", -1, none, new int[] {5, 2}, new int[][] {{0, 6}, {0, 5}}, (x, t) -> x.workIs(t[0], t[1]));
        int[][] counts = {{0, 10, 20, 26, 30, 36}, {20, 26, 0, 10, 30, 36}, {30, 36, 0, 10, 20, 26}};
        for (int[] range : counts) {
            ranges("count", -1, none, new int[] {5}, new int[][] {range}, (x, t) -> x.count(t[0]));
        }
        for (int[] range : new int[][] {{0, 6, 10, 11}, {10, 11, 0, 6}}) {
            ranges("thefts", NO_THEFT, none, new int[] {5}, new int[][] {range}, (x, t) -> x.thefts(t[0]));
        }
    }

    private static void searched() {
        int[] none = {};
        for (int[] whats : new int[][] {{0, 1, 10, 13}, {10, 13, 0, 1}}) {
            ranges("plan of works 0 to 3", -1, none, new int[] {1, 1}, new int[][] {{0, 6}, whats},
                (x, t) -> x.plan(t[0], 15, t[1]));
        }
        for (int works : new int[] {0, -1, 31, 47, 127, 128, 129, 143, 255, 256, 257, 1 << 31, 15 + (1 << 31)}) {
            isRefused("plan of works", -1, none, new int[] {works}, (x, t) -> x.plan(1, t[0], 0));
        }
        for (int works : new int[] {1, 64, 96, 112, 120, 15}) {
            Checks.due("plan of works " + works, busy().plan(1, works, 0) >= 0, true);
        }
        ranges("before", -1, none, new int[] {1, 2, 3}, new int[][] {{0, 6}, {1, 8}, {1, 40}},
            (x, t) -> x.before(t[0], t[1], t[2]));
        ranges("flock", -1, none, new int[] {3, 4, 1}, new int[][] {{1, 20}, {1, 12}, {0, 1}},
            (x, t) -> x.flock(t[0], t[1], t[2]));
        ranges("baskets", -1, none, new int[] {1, 60, 1}, new int[][] {{0, 6}, {0, 9999}, {0, 1}},
            (x, t) -> x.baskets(t[0], t[1], t[2]));
        ranges("latest", -1, none, new int[] {1, 60}, new int[][] {{0, 6}, {1, 999}}, (x, t) -> x.latest(t[0], t[1]));
        ranges("soonest", -1, none, new int[] {1, 6}, new int[][] {{0, 6}, {0, 6, 8, 8}},
            (x, t) -> x.soonest(t[0], t[1]));
        ranges("barter", -1, none, new int[] {3, 2, 50, 50, 0},
            new int[][] {{3, 6, 0, 1}, {0, 2, 4, 6}, {0, 9999}, {0, 9999}, {0, 2}},
            (x, t) -> x.barter(t[0], t[1], t[2], t[3], t[4]));
        for (int p = 0; p < 9; p++) {
            isRefused("barter, one twice", -1, none, new int[] {p}, (x, t) -> x.barter(t[0], t[0], 50, 50, 0));
        }
    }

    private static void fromTheTape() {
        int[] whole = {3, 4, 5, 6, 7, 8, 9, 10, 11};
        ranges("rations", -1, whole, new int[] {4, 2}, new int[][] {{1, 8}, {2, 3}},
            (x, t) -> x.rations(t[0], t[1], 10));
        int[] keeps = {0, 60, 1, 60, 2, 60, 3, 60, 0, 0, 0, 0};
        ranges("hoards", -1, keeps, new int[] {3, 1}, new int[][] {{2, 5}, {0, 1}}, (x, t) -> x.hoards(t[0], t[1]));
        int[] broken = {0, 1, 2, 0, 0, 0, 0, 0, 0, 0, 0};
        ranges("yolks", -1, broken, new int[] {3, 180, 1}, new int[][] {{1, 10}, {0, 9999}, {0, 1}},
            (x, t) -> x.yolks(t[0], t[1], t[2]));
    }

    /** "it has not so many (the tape stays)": one byte or number more than there are. */
    private static void tapeTooShort() {
        int[] none = {};
        int[] some = new int[20];
        isRefused("law of 21 of 20 bytes", -1, some, new int[] {21}, (x, t) -> x.law(t[0]));
        isRefused("acts of 21 of 20 bytes", -1, some, new int[] {21}, (x, t) -> x.acts(t[0]));
        isRefused("judged of 21 of 20 bytes", -1, some, new int[] {21}, (x, t) -> x.judged(t[0]));
        isRefused("check of 6 of 5 numbers", -2, some, new int[] {6}, (x, t) -> x.check(t[0]));
        isRefused("law of no bytes", -1, none, new int[] {1}, (x, t) -> x.law(t[0]));
        isRefused("acts of no bytes", -1, none, new int[] {1}, (x, t) -> x.acts(t[0]));
        isRefused("judged of no bytes", -1, none, new int[] {1}, (x, t) -> x.judged(t[0]));
        isRefused("check of no numbers", -2, none, new int[] {1}, (x, t) -> x.check(t[0]));
        isRefused("rations of no bytes", -1, none, new int[] {1}, (x, t) -> x.rations(t[0], 2, 10));
        isRefused("hoards of no bytes", -1, none, new int[] {2}, (x, t) -> x.hoards(t[0], 0));
        isRefused("yolks of no bytes", -1, none, new int[] {1}, (x, t) -> x.yolks(t[0], 60, 0));
        Checks.due("law of 20 of 20 bytes", busy(some).law(20), -1000);
        Checks.due("acts of 20 of 20 bytes", busy(some).acts(20), -1000);
        Checks.due("judged of 20 of 20 bytes", busy(some).judged(20), -1000);
        Checks.due("check of 5 of 5 numbers", busy(some).check(5), 0);
        Checks.due("hoards of all 20 bytes", busy(some).hoards(4, 0) >= 0, true);
    }

    /** What is refused ahead of anything: a new object, and one in which nothing was kept. */
    private static void rest() {
        EggTown x = new EggTown();
        Checks.due("undo, none was KEPT", x.undo(), false);
        Checks.due("fox, no hens", x.fox(0), false);
        Checks.due("hen, nobody is told", x.hen(0, 0, 0), false);
        Checks.due("acts, no bytes", x.acts(1), -1);
        Checks.due("days", x.days(0), -1);
        Checks.due("nothing changed", Arrays.equals(Towns.all(x), Towns.all(new EggTown())), true);
        EggTown y = busy(1, 2, 3);
        y.undo();
        y.undo();
        Checks.due("nothing is laid on the day that was undone", y.count(1), 7);
    }
}
