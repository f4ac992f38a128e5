import java.util.Random;

/** Drawn runs of calls: EggTown must answer each as PlainTown does, and be in the same state behind it. */
public final class ModelTest {
    private static final int RUNS = 2500;
    private static final int MOST_CALLS = 512;

    private final Random random;
    private final EggTown x = new EggTown();
    private final PlainTown y = new PlainTown();
    private final StringBuilder told = new StringBuilder();
    private boolean right = true;
    private final boolean useful;

    private ModelTest(long seed) {
        random = new Random(seed);
        useful = seed % 2 == 0;
    }

    public static void main(String[] args) {
        int runs = args.length > 0 ? Integer.parseInt(args[0]) : RUNS;
        long from = args.length > 1 ? Long.parseLong(args[1]) : 1;
        for (long seed = from; seed < from + runs && Checks.wrong == 0; seed++) {
            ModelTest run = new ModelTest(seed);
            int calls = seed % 40 == 0 ? MOST_CALLS : 60 + (int) (seed % 80);
            run.go(calls);
            if (!run.right) {
                System.out.println("run " + seed + ":" + run.told);
            }
        }
        Checks.end("ModelTest");
    }

    private int below(int n) {
        return random.nextInt(n);
    }

    private void same(String call, long got, long want) {
        told.append(' ').append(call).append('=').append(got);
        Checks.due(call, got, want);
        right = right && got == want;
    }

    private void go(int calls) {
        if (below(10) > 0) {
            begin();
        }
        for (int k = 0; k < calls && right; k++) {
            call();
            if (below(4) == 0 || k == calls - 1) {
                compareAll();
            }
        }
    }

    private void begin() {
        for (int p = 0; p < 8; p++) {
            if (below(3) > 0) {
                same("person(" + p + ")", x.person(p) ? 1 : 0, y.person(p) ? 1 : 0);
            }
        }
        for (int h = 0; h < 8; h++) {
            if (below(4) > 0) {
                hen(h, below(4), below(8));
            }
        }
        work();
        work();
        work();
        newLaw(usefulLaw());
    }

    private String usefulLaw() {
        String[] lays = {"l60(1=1)", "l" + (10 + below(60)) + "+r*" + below(12) + "(1=1)", "l20*k+o(r<5);l40-y(1=1)"};
        String[] bads = {"b" + (3 + below(60)) + "(1=1)", "b9(k=1);b20-c(m>30)", "b0(1=1)", "b12+w-k(!o=2)"};
        String[] towards = {"tm(1=1)", "tm/2+i*5(1=1)", "t90-m(c=0&a<9);tm+c*3(1=1)", "t[m+i*17]%50(1=1)"};
        return lays[below(3)] + ";" + bads[below(4)] + ";h" + below(60) + "+m/9(1=1);" + towards[below(4)] + ";p"
            + below(900) + "/n(1=1);f" + below(5) + "(k<2)";
    }

    private void hen(int h, int kind, int owner) {
        same("hen(" + h + "," + kind + "," + owner + ")", x.hen(h, kind, owner) ? 1 : 0, y.hen(h, kind, owner) ? 1 : 0);
    }

    private void work() {
        int i = below(20) == 0 ? below(12) - 2 : below(8);
        int needs = below(20) == 0 ? below(2) * 1000 : 1 + below(below(3) == 0 ? 999 : 200);
        int worth = below(20) == 0 ? below(1003) - 1 : below(8);
        int by = below(20) == 0 ? 9998 + below(4) : below(120);
        same("work(" + i + "," + needs + "," + worth + "," + by + ")", x.work(i, needs, worth, by) ? 1 : 0,
            y.work(i, needs, worth, by) ? 1 : 0);
    }

    private void feedBoth(int[] bytes) {
        for (int k = 0; k < bytes.length; k += 20) {
            int[] w = Checks.words(bytes, k);
            same("feed(" + w[0] + "," + w[1] + "," + w[2] + "," + w[3] + "," + w[4] + ")",
                x.feed(w[0], w[1], w[2], w[3], w[4]), y.feed(w[0], w[1], w[2], w[3], w[4]));
        }
    }

    private void emptyTape() {
        same("check(0)", x.check(0), y.check(0));
    }

    private int length(String text) {
        return below(25) == 0 ? below(270) - 3 : text.length();
    }

    private void newLaw(String text) {
        emptyTape();
        feedBoth(Checks.bytes(text));
        int n = length(text);
        told.append(" {").append(text).append('}');
        same("law(" + n + ")", x.law(n), y.law(n));
    }

    private void act(String text, boolean judge) {
        emptyTape();
        feedBoth(Checks.bytes(text));
        int n = length(text);
        told.append(" {").append(text).append('}');
        same((judge ? "judged(" : "acts(") + n + ")", judge ? x.judged(n) : x.acts(n),
            judge ? y.judged(n) : y.acts(n));
    }

    private String e(int deep) {
        StringBuilder b = new StringBuilder(factor(deep));
        for (int k = below(3); k > 0; k--) {
            b.append("+-*/%".charAt(below(5))).append(factor(deep));
        }
        return b.toString();
    }

    private String factor(int deep) {
        int which = below(10);
        if (which == 0 && deep > 0) {
            return "[" + e(deep - 1) + "]";
        }
        if (which < 4) {
            return String.valueOf(below(30) == 0 ? below(200000) : below(which == 1 ? 10 : 200));
        }
        return String.valueOf("dwykrmacoin".charAt(below(11)));
    }

    private String c(int deep) {
        StringBuilder b = new StringBuilder(piece(deep));
        for (int k = below(3); k > 0; k--) {
            b.append("&|".charAt(below(2))).append(piece(deep));
        }
        return b.toString();
    }

    private String piece(int deep) {
        int which = below(8);
        if (which == 0 && deep > 0) {
            return "!" + piece(deep - 1);
        }
        if (which == 1 && deep > 0) {
            return "(" + c(deep - 1) + ")";
        }
        return e(deep) + "<>=".charAt(below(3)) + e(deep);
    }

    private String lawText() {
        StringBuilder b = new StringBuilder();
        int deep = below(8);
        for (int k = below(8); k >= 0; k--) {
            String clause = "lfbhptlbt".charAt(below(9)) + e(deep) + "(" + (below(3) == 0 ? "1=1" : c(deep)) + ")";
            if (b.length() + clause.length() < 238) {
                b.append(b.length() == 0 ? "" : ";").append(clause);
            }
        }
        if (below(12) == 0) {
            b = new StringBuilder("l1(1=1)");
            for (int k = below(4); k < 18; k++) {
                b.append(";").append("lfbhpt".charAt(below(6))).append("1(d=1)");
            }
        }
        return spoiled(b, "lfbhptdwykrmacoin0123456789+-*/%()[]!&|<>=; ");
    }

    private String spoiled(StringBuilder b, String signs) {
        if (below(4) == 0 && b.length() > 0) {
            int at = below(b.length());
            char sign = signs.charAt(below(signs.length()));
            switch (below(4)) {
                case 0:
                    b.setCharAt(at, sign);
                    break;
                case 1:
                    b.insert(at, sign);
                    break;
                case 2:
                    b.deleteCharAt(at);
                    break;
                default:
                    b.setLength(at + 1);
                    break;
            }
        }
        return b.toString();
    }

    private int someEgg() {
        return below(15) == 0 ? below(52) : below(Math.max(1, Math.min(48, y.s.eggs.size() + 1)));
    }

    private String handful() {
        if (below(2) == 0) {
            return String.valueOf(someEgg());
        }
        StringBuilder b = new StringBuilder("(");
        java.util.Set<Integer> used = new java.util.HashSet<>();
        for (int k = below(below(10) == 0 ? 10 : 5); k >= 0; k--) {
            int egg = someEgg();
            if (used.add(egg) || below(20) == 0) {
                b.append(b.length() == 1 ? "" : "+").append(below(15) == 0 && egg < 10 ? "0" : "").append(egg);
            }
        }
        return b.append(")").toString();
    }

    private String actsText() {
        StringBuilder b = new StringBuilder();
        for (int k = below(below(10) == 0 ? 26 : 6); k >= 0; k--) {
            char sign = ">>>!!.**".charAt(below(8));
            String line = handful() + sign + (sign == '>' || sign == '!' ? "" + below(below(20) == 0 ? 10 : 8) : "");
            if (b.length() + line.length() < 139) {
                b.append(b.length() == 0 ? "" : ",").append(line);
            }
        }
        return spoiled(b, "0123456789>!.*,+() ");
    }

    private int person() {
        int any = below(15) == 0 ? below(14) - 3 : below(8);
        return useful && below(3) > 0 ? Math.min(2, any) : any;
    }

    private int what(int most) {
        return below(12) == 0 ? below(45) - 3 : below(most + 1);
    }

    private int days() {
        return below(12) == 0 ? below(70) - 3 : 1 + below(8);
    }

    private void call() {
        switch (below(29)) {
            case 0:
                int p = person();
                same("person(" + p + ")", x.person(p) ? 1 : 0, y.person(p) ? 1 : 0);
                break;
            case 1:
                hen(person(), what(3), person());
                break;
            case 2:
                int f = useful ? person() - 6 : person();
                same("fox(" + f + ")", x.fox(f) ? 1 : 0, y.fox(f) ? 1 : 0);
                break;
            case 3:
                work();
                break;
            case 4:
                if (!useful || y.s.eggs.size() > 40) {
                    same("clean()", x.clean(), y.clean());
                }
                break;
            case 5:
                newLaw(useful ? usefulLaw() : lawText());
                break;
            case 6:
            case 7:
            case 8:
                act(actsText(), false);
                break;
            case 9:
                act(actsText(), true);
                break;
            case 10:
            case 11:
                int n = days();
                same("days(" + n + ")", x.days(n), y.days(n));
                break;
            case 12:
                int t = days();
                int w = what(4);
                same("tried(" + t + "," + w + ")", x.tried(t, w), y.tried(t, w));
                break;
            case 13:
                plan();
                break;
            case 14:
                before();
                break;
            case 15:
                flock();
                break;
            case 16:
                rations();
                break;
            case 17:
                hoards();
                break;
            case 18:
                yolks();
                break;
            case 19:
                int th = what(11);
                same("thefts(" + th + ")", x.thefts(th), y.thefts(th));
                break;
            case 20:
                baskets();
                break;
            default:
                lessOften();
                break;
        }
    }

    private void lessOften() {
        switch (below(9)) {
            case 0:
                int i = person();
                int k = below(15) == 0 ? below(1002) : 1 + below(60);
                same("latest(" + i + "," + k + ")", x.latest(i, k), y.latest(i, k));
                break;
            case 1:
                int s = person();
                int q = below(3) == 0 ? 8 : person();
                same("soonest(" + s + "," + q + ")", x.soonest(s, q), y.soonest(s, q));
                break;
            case 2:
                barter();
                break;
            case 3:
                int v = below(6) == 0 ? below(70000) - 100 : below(65536);
                same("seed(" + v + ")", x.seed(v) ? 1 : 0, y.seed(v) ? 1 : 0);
                break;
            case 4:
                same("keep()", x.keep(), y.keep());
                break;
            case 5:
                same("undo()", x.undo() ? 1 : 0, y.undo() ? 1 : 0);
                break;
            case 6:
                check();
                break;
            case 7:
                feedBoth(new int[] {below(256), below(48), below(48), below(4)});
                break;
            default:
                int b = below(45) - 3;
                same("count(" + b + ")", x.count(b), y.count(b));
                break;
        }
    }

    private void plan() {
        int p = person();
        int told = y.count(10);
        int works = below(10) == 0 ? below(260) - 2 : told & below(256) & (below(2) == 0 ? 255 : below(256));
        for (int i = 0; i < 8 && useful; i++) {
            works &= y.workIs(i, 4) == 1 ? ~(1 << i) : -1;
        }
        int most = below(4) == 0 ? 4 : 1 + below(3);
        while (Integer.bitCount(works) > most && works > 0 && below(20) > 0) {
            works &= works - 1;
        }
        int has = Math.min(10, Math.max(0, y.personIs(p, 4)));
        double rows = Math.pow(Integer.bitCount(works & 255) + 1, has);
        int w = below(10) == 0 ? what(20) : below(2) == 0 ? below(2) : 10 + below(8);
        for (int k = 0; k < 8 && w >= 10 && (works >> w - 10 & 1) == 0 && below(10) > 0; k++) {
            w = 10 + (w - 9) % 8;
        }
        if (rows < (below(20) == 0 ? 1100000 : 20000)) {
            same("plan(" + p + "," + works + "," + w + ")", x.plan(p, works, w), y.plan(p, works, w));
        }
    }

    private void before() {
        int p = person();
        int each = below(12) == 0 ? below(12) - 1 : 1 + below(3);
        int n = below(12) == 0 ? below(45) - 1 : 1 + below(10);
        same("before(" + p + "," + each + "," + n + ")", x.before(p, each, n), y.before(p, each, n));
    }

    private void flock() {
        int h = below(23) - 1;
        int n = below(15) - 1;
        int w = what(1);
        same("flock(" + h + "," + n + "," + w + ")", x.flock(h, n, w), y.flock(h, n, w));
    }

    private int[] row(int state, int most) {
        java.util.List<Integer> fit = new java.util.ArrayList<>();
        for (int i = 0; i < y.s.eggs.size(); i++) {
            if (y.s.eggs.get(i).state == state) {
                fit.add(i);
            }
        }
        java.util.Collections.shuffle(fit, random);
        int[] row = new int[Math.max(1, Math.min(fit.size(), 1 + below(most)))];
        for (int k = 0; k < row.length; k++) {
            row[k] = k < fit.size() && below(40) > 0 ? fit.get(k) : below(256);
        }
        return row;
    }

    private void rations() {
        int[] row = row(0, 8);
        emptyTape();
        feedBoth(row);
        int n = below(15) == 0 ? below(12) - 1 : row.length;
        int m = below(15) == 0 ? below(6) : 2 + below(2);
        int w = below(3) == 0 ? 10 : what(n + 1);
        same("rations(" + n + "," + m + "," + w + ")", x.rations(n, m, w), y.rations(n, m, w));
    }

    private void hoards() {
        int n = below(12) == 0 ? below(8) : 2 + below(4);
        int[] row = new int[2 * Math.max(1, n)];
        for (int k = 0; k < row.length; k += 2) {
            int v = below(30) == 0 ? below(1100) : below(4) * 60 + below(200);
            row[k] = v >> 8;
            row[k + 1] = v & 255;
        }
        emptyTape();
        feedBoth(row);
        int w = what(1);
        same("hoards(" + n + "," + w + ")", x.hoards(n, w), y.hoards(n, w));
    }

    private void yolks() {
        int[] row = row(1, 10);
        emptyTape();
        feedBoth(row);
        int minutes = 0;
        for (int egg : row) {
            minutes += Math.max(0, y.egg(egg, 0)) * (1 + below(2));
        }
        minutes = below(8) == 0 ? below(10010) - 4 : minutes;
        int n = below(15) == 0 ? below(13) - 1 : row.length;
        int w = what(1);
        same("yolks(" + n + "," + minutes + "," + w + ")", x.yolks(n, minutes, w), y.yolks(n, minutes, w));
    }

    private void baskets() {
        int p = person();
        int minutes = 0;
        for (int i = 0; i < y.s.eggs.size(); i++) {
            minutes += y.egg(i, 3) == p && y.egg(i, 5) == 0 ? y.egg(i, 0) * below(2) : 0;
        }
        minutes = below(8) == 0 ? below(10010) - 4 : minutes;
        int w = what(1);
        same("baskets(" + p + "," + minutes + "," + w + ")", x.baskets(p, minutes, w), y.baskets(p, minutes, w));
    }

    private void barter() {
        int a = person();
        int b = person();
        int wantsA = below(12) == 0 ? below(10010) - 4 : Math.max(0, y.personIs(a, 5) + below(80) - 40);
        int wantsB = below(12) == 0 ? below(10010) - 4 : Math.max(0, y.personIs(b, 5) + below(80) - 40);
        int w = what(2);
        same("barter(" + a + "," + b + "," + wantsA + "," + wantsB + "," + w + ")", x.barter(a, b, wantsA, wantsB, w),
            y.barter(a, b, wantsA, wantsB, w));
    }

    private void check() {
        int n = below(15) == 0 ? below(52) - 2 : below(20);
        int[] row = new int[4 * Math.max(1, n)];
        for (int k = 0; k < n; k++) {
            int v = below(12) == 0 ? below(60) : Math.max(0, y.egg(k, 0));
            row[4 * k + 3] = v;
            row[4 * k] = below(60) == 0 ? 1 : 0;
        }
        emptyTape();
        feedBoth(row);
        same("check(" + n + ")", x.check(n), y.check(n));
    }

    private void compareAll() {
        for (int w = -1; w < 40; w++) {
            same("count(" + w + ")", x.count(w), y.count(w));
        }
        for (int i = -1; i < 49; i++) {
            for (int w = 0; w < 8; w++) {
                Checks.due("egg(" + i + "," + w + ")", x.egg(i, w), y.egg(i, w));
            }
        }
        for (int p = -1; p < 9; p++) {
            for (int w = -1; w < 8; w++) {
                Checks.due("personIs(" + p + "," + w + ")", x.personIs(p, w), y.personIs(p, w));
                Checks.due("workIs(" + p + "," + w + ")", x.workIs(p, w), y.workIs(p, w));
            }
        }
    }
}
