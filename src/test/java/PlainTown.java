import java.util.ArrayList;
import java.util.List;

/** The document once more, as plainly as can be and with no thought of speed: what EggTown is compared with. */
final class PlainTown {
    static final class Refused extends RuntimeException {
        private static final long serialVersionUID = 1;
    }

    static final class Fault extends RuntimeException {
        private static final long serialVersionUID = 1;
        final int answer;

        Fault(int kind, int place) {
            answer = -1000 * kind - place;
        }
    }

    static final class Egg {
        int minutes, day, hen, owner, brooded, state;

        Egg copy() {
            Egg e = new Egg();
            e.minutes = minutes;
            e.day = day;
            e.hen = hen;
            e.owner = owner;
            e.brooded = brooded;
            e.state = state;
            return e;
        }
    }

    static final class State {
        boolean[] people = new boolean[8], hens = new boolean[8], works = new boolean[8];
        int[] lived = new int[8], laid = new int[8], to = new int[8], by = new int[8];
        int[] kind = new int[8], henOwner = new int[8];
        int[] needs = new int[8], done = new int[8], worth = new int[8], until = new int[8], doneOn = new int[8];
        List<Egg> eggs = new ArrayList<>();
        List<Integer> tape = new ArrayList<>();
        int day, x = 1;

        State copy() {
            State s = new State();
            s.people = people.clone();
            s.hens = hens.clone();
            s.works = works.clone();
            s.lived = lived.clone();
            s.laid = laid.clone();
            s.to = to.clone();
            s.by = by.clone();
            s.kind = kind.clone();
            s.henOwner = henOwner.clone();
            s.needs = needs.clone();
            s.done = done.clone();
            s.worth = worth.clone();
            s.until = until.clone();
            s.doneOn = doneOn.clone();
            for (Egg e : eggs) {
                s.eggs.add(e.copy());
            }
            s.tape.addAll(tape);
            s.day = day;
            s.x = x;
            return s;
        }
    }

    static final class Line {
        List<Integer> eggs = new ArrayList<>();
        char sign;
        int target = -1;
    }

    State s = new State();
    State kept = null;
    String law = "";
    int clauses = 0;
    int struck, wentBad, wereLaid, wereLaidMinutes;

    // ---- texts

    private String take(int n) {
        StringBuilder b = new StringBuilder();
        for (int k = 0; k < n; k++) {
            b.append((char) (int) s.tape.get(k));
        }
        s.tape.clear();
        return b.toString();
    }

    /** A reader that checks a law, and one that reckons it, in the same walk over the text. */
    private final class Walk {
        final String text;
        int at;
        int[] letters;
        boolean asking = true;

        Walk(String text) {
            this.text = text;
        }

        int sign() {
            return at < text.length() ? text.charAt(at) : -1;
        }

        void need(char c) {
            if (sign() != c) {
                throw new Fault(1, at);
            }
            at++;
        }

        int sum(int open) {
            int v = term(open);
            while (sign() == '+' || sign() == '-') {
                char c = text.charAt(at++);
                int w = term(open);
                v = c == '+' ? v + w : v - w;
            }
            return v;
        }

        int term(int open) {
            int v = factor(open);
            while (sign() == '*' || sign() == '/' || sign() == '%') {
                char c = text.charAt(at++);
                int w = factor(open);
                if (c == '*') {
                    v *= w;
                } else if (!asking || letters == null) {
                    v = 0;
                } else if (w == 0) {
                    throw new Refused();
                } else {
                    v = c == '/' ? v / w : v % w;
                }
            }
            return v;
        }

        int factor(int open) {
            int c = sign();
            if (c >= '0' && c <= '9') {
                int v = 0;
                for (int k = 0; sign() >= '0' && sign() <= '9'; k++) {
                    if (k == 5) {
                        throw new Fault(2, at);
                    }
                    v = v * 10 + text.charAt(at++) - '0';
                }
                return v;
            }
            if (c == '[') {
                if (open == 6) {
                    throw new Fault(5, at);
                }
                at++;
                int v = sum(open + 1);
                need(']');
                return v;
            }
            int which = c < 0 ? -1 : "dwykrmacoin".indexOf(c);
            if (which < 0) {
                throw new Fault(1, at);
            }
            at++;
            return letters == null ? 0 : letters[which];
        }

        boolean condition(int open) {
            boolean was = asking;
            boolean holds = part(open);
            while (sign() == '|') {
                at++;
                asking = was && !holds;
                boolean other = part(open);
                holds = holds || other;
            }
            asking = was;
            return holds;
        }

        boolean part(int open) {
            boolean was = asking;
            boolean holds = piece(open);
            while (sign() == '&') {
                at++;
                asking = was && holds;
                boolean other = piece(open);
                holds = holds && other;
            }
            asking = was;
            return holds;
        }

        boolean piece(int open) {
            if (sign() == '!' || sign() == '(') {
                if (open == 6) {
                    throw new Fault(5, at);
                }
                char c = text.charAt(at++);
                if (c == '!') {
                    return !piece(open + 1);
                }
                boolean holds = condition(open + 1);
                need(')');
                return holds;
            }
            int v = sum(open);
            int c = sign();
            if (c != '<' && c != '>' && c != '=') {
                throw new Fault(1, at);
            }
            at++;
            int w = sum(open);
            return c == '<' ? v < w : c == '>' ? v > w : v == w;
        }

        int law() {
            int n = 0;
            while (true) {
                if (sign() < 0 || "lfbhpt".indexOf(sign()) < 0) {
                    throw new Fault(1, at);
                }
                if (n == 16) {
                    throw new Fault(4, at);
                }
                at++;
                sum(0);
                need('(');
                condition(1);
                need(')');
                n++;
                if (sign() < 0) {
                    return n;
                }
                need(';');
            }
        }
    }

    private int ask(char letter, int bound, int[] letters) {
        if (law.isEmpty()) {
            return 0;
        }
        for (String clause : law.split(";")) {
            if (clause.charAt(0) != letter) {
                continue;
            }
            int open = clause.indexOf('(');
            boolean holds;
            try {
                Walk w = new Walk(clause.substring(open + 1, clause.length() - 1));
                w.letters = letters;
                holds = w.condition(1);
            } catch (Refused r) {
                holds = false;
            }
            if (!holds) {
                continue;
            }
            int value;
            try {
                Walk w = new Walk(clause.substring(1, open));
                w.letters = letters;
                value = w.sum(0);
            } catch (Refused r) {
                value = 0;
            }
            return Math.max(0, Math.min(bound, value));
        }
        return 0;
    }

    // d w y k r m a c o i n
    private int askHen(State t, char letter, int bound, int y, int r) {
        return ask(letter, bound, new int[] {t.day, t.day % 7, y, t.kind[y], r, 0, 0, 0, t.henOwner[y], 0, 0});
    }

    private int askEgg(State t, char letter, int bound, Egg e, int work) {
        return ask(letter, bound, new int[] {t.day, t.day % 7, e.hen, t.kind[e.hen], 0, e.minutes, t.day - e.day,
            e.brooded, e.owner, work, 0});
    }

    // ---- the calls

    boolean person(int p) {
        if (p < 0 || p > 7 || s.people[p]) {
            return false;
        }
        return s.people[p] = true;
    }

    private boolean isPerson(int p) {
        return p >= 0 && p < 8 && s.people[p];
    }

    private boolean isWork(int i) {
        return i >= 0 && i < 8 && s.works[i];
    }

    boolean hen(int y, int kind, int owner) {
        if (y < 0 || y > 7 || kind < 0 || kind > 3 || !isPerson(owner)) {
            return false;
        }
        s.hens[y] = true;
        s.kind[y] = kind;
        s.henOwner[y] = owner;
        return true;
    }

    boolean fox(int y) {
        if (y < 0 || y > 7 || !s.hens[y]) {
            return false;
        }
        s.hens[y] = false;
        return true;
    }

    boolean work(int i, int needs, int worth, int by) {
        if (i < 0 || i > 7 || needs < 1 || needs > 999 || worth < 0 || worth > 999 || by < 0 || by > 9999) {
            return false;
        }
        s.works[i] = true;
        s.needs[i] = needs;
        s.done[i] = 0;
        s.worth[i] = worth;
        s.until[i] = by;
        return true;
    }

    int clean() {
        int all = s.eggs.size();
        s.eggs.removeIf(e -> e.state != 0);
        return all - s.eggs.size();
    }

    int feed(int a, int b, int c, int d, int e) {
        if (s.tape.size() > 240) {
            return -1;
        }
        for (int v : new int[] {a, b, c, d, e}) {
            for (int k = 3; k >= 0; k--) {
                s.tape.add(v >> 8 * k & 255);
            }
        }
        return s.tape.size();
    }

    int law(int n) {
        if (n < 1 || n > 240 || n > s.tape.size()) {
            return -1;
        }
        String text = take(n);
        try {
            clauses = new Walk(text).law();
            law = text;
            return clauses;
        } catch (Fault f) {
            return f.answer;
        }
    }

    private static boolean digit(String t, int at) {
        return at < t.length() && t.charAt(at) >= '0' && t.charAt(at) <= '9';
    }

    private static int readEgg(String t, int at, List<Integer> eggs, boolean some) {
        if (!digit(t, at)) {
            throw new Fault(1, at);
        }
        if (some && eggs.size() == 8) {
            throw new Fault(6, at);
        }
        int end = digit(t, at + 1) ? at + 2 : at + 1;
        int egg = Integer.parseInt(t.substring(at, end));
        if (egg > 47) {
            throw new Fault(3, at);
        }
        if (eggs.contains(egg)) {
            throw new Fault(7, at);
        }
        eggs.add(egg);
        return end;
    }

    private static List<Line> readActs(String t) {
        List<Line> lines = new ArrayList<>();
        int at = 0;
        while (true) {
            boolean some = at < t.length() && t.charAt(at) == '(';
            if (!some && !digit(t, at)) {
                throw new Fault(1, at);
            }
            if (lines.size() == 24) {
                throw new Fault(4, at);
            }
            Line line = new Line();
            at = readEgg(t, some ? at + 1 : at, line.eggs, some);
            while (some && at < t.length() && t.charAt(at) == '+') {
                at = readEgg(t, at + 1, line.eggs, true);
            }
            if (some) {
                if (at >= t.length() || t.charAt(at) != ')') {
                    throw new Fault(1, at);
                }
                at++;
            }
            if (at >= t.length() || ">!.*".indexOf(t.charAt(at)) < 0) {
                throw new Fault(1, at);
            }
            line.sign = t.charAt(at++);
            if (line.sign == '>' || line.sign == '!') {
                if (!digit(t, at)) {
                    throw new Fault(1, at);
                }
                line.target = t.charAt(at) - '0';
                if (line.target > 7) {
                    throw new Fault(3, at);
                }
                at++;
            }
            lines.add(line);
            if (at == t.length()) {
                return lines;
            }
            if (t.charAt(at) != ',') {
                throw new Fault(1, at);
            }
            at++;
        }
    }

    private boolean can(State t, Line line) {
        for (int e : line.eggs) {
            if (e >= t.eggs.size() || t.eggs.get(e).state != 0) {
                return false;
            }
            if (line.sign == '>' && t.eggs.get(e).owner == line.target) {
                return false;
            }
            if (line.sign == '*' && t.eggs.get(e).brooded == 9) {
                return false;
            }
        }
        if (line.sign == '>') {
            return t.people[line.target];
        }
        return line.sign != '!' || t.works[line.target] && t.done[line.target] < t.needs[line.target];
    }

    private void breakFor(State t, Egg e, int work) {
        int minutes = askEgg(t, 't', 240, e, work);
        if (t.done[work] < t.needs[work]) {
            t.done[work] = Math.min(t.needs[work], t.done[work] + minutes);
            if (t.done[work] == t.needs[work]) {
                t.doneOn[work] = t.day;
            }
        }
        e.state = 1;
        t.lived[e.owner] += e.minutes;
    }

    private void act(State t, Line line) {
        for (int k : line.eggs) {
            Egg e = t.eggs.get(k);
            if (line.sign == '>') {
                t.by[e.owner] += e.minutes;
                t.to[line.target] += e.minutes;
                e.owner = line.target;
            } else if (line.sign == '!') {
                breakFor(t, e, line.target);
            } else if (line.sign == '.') {
                e.state = 1;
                t.lived[e.owner] += e.minutes;
            } else {
                e.minutes = Math.min(240, e.minutes + askEgg(t, 'h', 60, e, 0));
                e.brooded++;
            }
        }
    }

    int acts(int n) {
        if (n < 1 || n > 140 || n > s.tape.size()) {
            return -1;
        }
        try {
            int done = 0;
            for (Line line : readActs(take(n))) {
                if (can(s, line)) {
                    act(s, line);
                    done++;
                }
            }
            return done;
        } catch (Fault f) {
            return f.answer;
        }
    }

    int judged(int n) {
        if (n < 1 || n > 140 || n > s.tape.size()) {
            return -1;
        }
        try {
            List<Line> lines = readActs(take(n));
            State t = s.copy();
            for (int k = 0; k < lines.size(); k++) {
                if (!can(t, lines.get(k))) {
                    return k;
                }
                act(t, lines.get(k));
            }
            return lines.size();
        } catch (Fault f) {
            return f.answer;
        }
    }

    private static int draw(State t) {
        t.x = (int) ((25173L * t.x + 13849) % 65536);
        return t.x % 10;
    }

    private boolean day(State t) {
        if (t.day == 9999) {
            return false;
        }
        for (int y = 0; y < 8; y++) {
            if (!t.hens[y]) {
                continue;
            }
            if (draw(t) < askHen(t, 'f', 10, y, 0)) {
                struck++;
                continue;
            }
            if (t.eggs.size() == 48) {
                continue;
            }
            Egg e = new Egg();
            e.minutes = askHen(t, 'l', 240, y, draw(t));
            e.day = t.day;
            e.hen = y;
            e.owner = t.henOwner[y];
            t.laid[e.owner] += e.minutes;
            t.eggs.add(e);
            wereLaid++;
            wereLaidMinutes += e.minutes;
        }
        for (Egg e : t.eggs) {
            if (e.state == 0) {
                int b = askEgg(t, 'b', 99, e, 0);
                if (b > 0 && t.day - e.day >= b) {
                    e.state = 2;
                    wentBad++;
                }
            }
        }
        t.day++;
        return true;
    }

    private void pass(State t, int n) {
        struck = wentBad = wereLaid = wereLaidMinutes = 0;
        for (int k = 0; k < n; k++) {
            day(t);
        }
    }

    int days(int n) {
        if (n < 1 || n > 60) {
            return -1;
        }
        pass(s, n);
        return wereLaid;
    }

    int tried(int n, int what) {
        if (n < 1 || n > 60 || what < 0 || what > 4) {
            return -1;
        }
        State t = s.copy();
        pass(t, n);
        return new int[] {wereLaid, wereLaidMinutes, wentBad, struck, (int) t.eggs.stream().filter(e -> e.state == 0)
            .count()}[what];
    }

    private int bad(Egg e) {
        int b = askEgg(s, 'b', 99, e, 0);
        return b == 0 ? -2 : e.day + b;
    }

    int egg(int i, int what) {
        if (i < 0 || i >= s.eggs.size() || what < 0 || what > 6) {
            return -1;
        }
        Egg e = s.eggs.get(i);
        return new int[] {e.minutes, e.day, e.hen, e.owner, e.brooded, e.state, bad(e)}[what];
    }

    private List<Integer> whole(int p) {
        List<Integer> found = new ArrayList<>();
        for (int i = 0; i < s.eggs.size(); i++) {
            if (s.eggs.get(i).state == 0 && s.eggs.get(i).owner == p) {
                found.add(i);
            }
        }
        return found;
    }

    private int minutes(List<Integer> eggs) {
        return eggs.stream().mapToInt(i -> s.eggs.get(i).minutes).sum();
    }

    int personIs(int p, int what) {
        if (!isPerson(p) || what < 0 || what > 6) {
            return -1;
        }
        int hens = 0;
        for (int y = 0; y < 8; y++) {
            hens += s.hens[y] && s.henOwner[y] == p ? 1 : 0;
        }
        return new int[] {s.lived[p], s.laid[p], s.to[p], s.by[p], whole(p).size(), minutes(whole(p)), hens}[what];
    }

    private boolean isDone(int i) {
        return s.done[i] == s.needs[i];
    }

    int workIs(int i, int what) {
        if (!isWork(i) || what < 0 || what > 5) {
            return -1;
        }
        boolean inTime = isDone(i) ? s.doneOn[i] <= s.until[i] : s.day <= s.until[i];
        return new int[] {s.needs[i], s.done[i], s.worth[i], s.until[i], isDone(i) ? 1 : 0, inTime ? 1 : 0}[what];
    }

    int plan(int p, int works, int what) {
        if (!isPerson(p) || works < 1 || works > 255 || Integer.bitCount(works) > 4) {
            return -1;
        }
        List<Integer> told = new ArrayList<>();
        for (int i = 0; i < 8; i++) {
            if ((works >> i & 1) == 1) {
                if (!s.works[i]) {
                    return -1;
                }
                told.add(i);
            }
        }
        if (what != 0 && what != 1 && !told.contains(what - 10)) {
            return -1;
        }
        for (int i : told) {
            if (isDone(i)) {
                return -2;
            }
        }
        List<Integer> eggs = whole(p);
        eggs = eggs.subList(0, Math.min(10, eggs.size()));
        int[][] t = new int[told.size()][eggs.size()];
        for (int w = 0; w < told.size(); w++) {
            for (int e = 0; e < eggs.size(); e++) {
                t[w][e] = askEgg(s, 't', 240, s.eggs.get(eggs.get(e)), told.get(w));
            }
        }
        int[] best = null;
        int[] to = new int[eggs.size()];
        while (true) {
            int[] now = new int[2 + told.size()];
            int[] got = new int[told.size()];
            for (int e = 0; e < to.length; e++) {
                if (to[e] > 0) {
                    now[1]++;
                    now[1 + to[e]] |= 1 << e;
                    got[to[e] - 1] += t[to[e] - 1][e];
                }
            }
            for (int w = 0; w < told.size(); w++) {
                if (s.done[told.get(w)] + got[w] >= s.needs[told.get(w)]) {
                    now[0] -= s.worth[told.get(w)];
                }
            }
            if (best == null || java.util.Arrays.compare(now, best) < 0) {
                best = now;
            }
            int e = 0;
            while (e < to.length && to[e] == told.size()) {
                to[e++] = 0;
            }
            if (e == to.length) {
                break;
            }
            to[e]++;
        }
        return what == 0 ? -best[0] : what == 1 ? best[1] : best[2 + told.indexOf(what - 10)];
    }

    int before(int p, int each, int n) {
        if (!isPerson(p) || each < 1 || each > 8 || n < 1 || n > 40) {
            return -1;
        }
        // Most minutes by augmenting paths, eggs with most minutes first.
        List<Integer> eggs = whole(p);
        eggs.sort((a, b) -> s.eggs.get(b).minutes - s.eggs.get(a).minutes);
        int[] slots = new int[n * each];
        java.util.Arrays.fill(slots, -1);
        int total = 0;
        for (int k = 0; k < eggs.size(); k++) {
            if (place(eggs, k, slots, each, new boolean[slots.length])) {
                total += s.eggs.get(eggs.get(k)).minutes;
            }
        }
        return total;
    }

    private boolean place(List<Integer> eggs, int k, int[] slots, int each, boolean[] seen) {
        int bad = bad(s.eggs.get(eggs.get(k)));
        for (int j = 0; j < slots.length; j++) {
            boolean can = bad == -2 || s.day + j / each < bad;
            if (can && !seen[j]) {
                seen[j] = true;
                if (slots[j] < 0 || place(eggs, slots[j], slots, each, seen)) {
                    slots[j] = k;
                    return true;
                }
            }
        }
        return false;
    }

    private static final int[][] MOST = new int[21][13];

    private static int most(int hens, int n) {
        if (n == 0 || MOST[hens][n] > 0) {
            return MOST[hens][n];
        }
        int best = -1;
        for (int x = 0; x <= hens && hens + x <= 20; x++) {
            best = Math.max(best, hens - x + most(hens + x, n - 1));
        }
        MOST[hens][n] = best;
        return best;
    }

    int flock(int hens, int n, int what) {
        if (hens < 1 || hens > 20 || n < 1 || n > 12 || what < 0 || what > 1) {
            return -1;
        }
        int most = most(hens, n);
        for (int x = 0; what == 1; x++) {
            if (hens - x + most(hens + x, n - 1) == most) {
                return x;
            }
        }
        return most;
    }

    private List<Integer> told(int n, int state) {
        List<Integer> eggs = new ArrayList<>();
        for (int k = 0; k < n; k++) {
            int e = s.tape.get(k);
            if (eggs.contains(e) || e >= s.eggs.size() || s.eggs.get(e).state != state) {
                eggs = null;
                break;
            }
            eggs.add(e);
        }
        s.tape.clear();
        return eggs;
    }

    int rations(int n, int m, int what) {
        if (n < 1 || n > 8 || m < 2 || m > 3 || n > s.tape.size()) {
            return -1;
        }
        List<Integer> eggs = told(n, 0);
        if (eggs == null) {
            return -2;
        }
        if (what != 10 && (what < 0 || what >= n)) {
            return -3;
        }
        int best = -1;
        int whose = 0;
        int rows = 1;
        for (int k = 0; k < n; k++) {
            rows *= m;
        }
        for (int row = 0; row < rows; row++) {
            int[] has = new int[m];
            int rest = row;
            int mine = 0;
            for (int k = n - 1; k >= 0; k--) {
                has[rest % m] += s.eggs.get(eggs.get(k)).minutes;
                mine = k == what ? rest % m : mine;
                rest /= m;
            }
            int least = java.util.Arrays.stream(has).min().getAsInt();
            if (least > best) {
                best = least;
                whose = mine;
            }
        }
        return what == 10 ? best : whose;
    }

    int hoards(int n, int what) {
        if (n < 2 || n > 5 || what < 0 || what > 1 || 2 * n > s.tape.size()) {
            return -1;
        }
        int[] keeps = new int[n];
        for (int k = 0; k < n; k++) {
            keeps[k] = 256 * s.tape.get(2 * k) + s.tape.get(2 * k + 1);
        }
        s.tape.clear();
        for (int v : keeps) {
            if (v > 999) {
                return -3;
            }
        }
        int found = 0;
        int lowest = -2;
        for (int row = 0; row < 1 << n; row++) {
            boolean steady = true;
            for (int k = 0; k < n; k++) {
                steady &= gain(row ^ 1 << k, k, keeps) <= gain(row, k, keeps);
            }
            if (steady) {
                lowest = found == 0 ? row : lowest;
                found++;
            }
        }
        return what == 0 ? found : lowest;
    }

    private int gain(int row, int k, int[] keeps) {
        if ((row >> k & 1) == 0) {
            return keeps[k];
        }
        return ask('p', 999, new int[] {s.day, s.day % 7, 0, 0, 0, 0, 0, 0, 0, 0, Integer.bitCount(row)});
    }

    int yolks(int n, int minutes, int what) {
        if (n < 1 || n > 10 || minutes < 0 || minutes > 9999 || what < 0 || what > 1 || n > s.tape.size()) {
            return -1;
        }
        List<Integer> eggs = told(n, 1);
        if (eggs == null) {
            return -3;
        }
        int found = 0;
        int first = -2;
        for (int set = (1 << n) - 1; set >= 0; set--) {
            int sum = 0;
            for (int k = 0; k < n; k++) {
                sum += s.eggs.get(eggs.get(k)).minutes * (1 + (set >> k & 1));
            }
            if (sum == minutes) {
                found++;
                first = set;
            }
        }
        return what == 0 ? found : first;
    }

    int thefts(int what) {
        int most = 0;
        int who = -2;
        int some = 0;
        for (int p = 0; p < 8; p++) {
            if (!s.people[p]) {
                continue;
            }
            int more = s.lived[p] - (s.laid[p] + s.to[p]) + s.by[p];
            if (what == p) {
                return more;
            }
            if (more > 0) {
                some++;
                if (more > most) {
                    most = more;
                    who = p;
                }
            }
        }
        return what == 10 ? who : what == 11 ? some : -1000000000;
    }

    int baskets(int p, int minutes, int what) {
        if (!isPerson(p) || minutes < 0 || minutes > 9999 || what < 0 || what > 1) {
            return -1;
        }
        List<Integer> eggs = whole(p);
        eggs = eggs.subList(0, Math.min(12, eggs.size()));
        int found = 0;
        int first = -2;
        for (int set = 0; set < 1 << eggs.size(); set++) {
            int sum = 0;
            for (int k = 0; k < eggs.size(); k++) {
                sum += (set >> k & 1) == 1 ? s.eggs.get(eggs.get(k)).minutes : 0;
            }
            if (sum == minutes) {
                found++;
                if (first == -2 || Integer.bitCount(set) < Integer.bitCount(first)) {
                    first = set;
                }
            }
        }
        return what == 0 ? found : first;
    }

    int latest(int i, int k) {
        if (!isWork(i) || k < 1 || k > 999) {
            return -1;
        }
        if (isDone(i)) {
            return -3;
        }
        for (int day = s.until[i]; day >= s.day; day--) {
            if (s.done[i] + (s.until[i] - day + 1) * k >= s.needs[i]) {
                return day;
            }
        }
        return -2;
    }

    int soonest(int i, int p) {
        if (!isWork(i) || p != 8 && !isPerson(p)) {
            return -1;
        }
        if (isDone(i)) {
            return -3;
        }
        if (p < 8) {
            return till(i, p);
        }
        int best = -2;
        for (int q = 0; q < 8; q++) {
            if (s.people[q] && till(i, q) >= 0 && (best < 0 || till(i, q) < till(i, best))) {
                best = q;
            }
        }
        return best;
    }

    private int till(int i, int p) {
        State t = s.copy();
        for (int n = 0; n <= 60; n++) {
            for (Egg e : t.eggs) {
                if (e.state == 0 && e.owner == p) {
                    breakFor(t, e, i);
                }
            }
            if (t.done[i] >= t.needs[i]) {
                return n;
            }
            if (!day(t)) {
                return -2;
            }
        }
        return -2;
    }

    int barter(int a, int b, int wantsA, int wantsB, int what) {
        if (!isPerson(a) || !isPerson(b) || a == b || wantsA < 0 || wantsA > 9999 || wantsB < 0 || wantsB > 9999
                || what < 0 || what > 2) {
            return -1;
        }
        int hasA = minutes(whole(a));
        int hasB = minutes(whole(b));
        int[] answers = {0, -2, -2};
        for (int x : whole(a)) {
            for (int y : whole(b)) {
                int newA = hasA - s.eggs.get(x).minutes + s.eggs.get(y).minutes;
                int newB = hasB - s.eggs.get(y).minutes + s.eggs.get(x).minutes;
                if (Math.abs(newA - wantsA) < Math.abs(hasA - wantsA)
                        && Math.abs(newB - wantsB) < Math.abs(hasB - wantsB)) {
                    if (answers[0] == 0) {
                        answers[1] = x;
                        answers[2] = y;
                    }
                    answers[0]++;
                }
            }
        }
        return answers[what];
    }

    boolean seed(int x) {
        if (x < 0 || x > 65535) {
            return false;
        }
        s.x = x;
        return true;
    }

    int keep() {
        kept = s.copy();
        return count(2);
    }

    boolean undo() {
        if (kept == null) {
            return false;
        }
        s = kept.copy();
        return true;
    }

    int check(int n) {
        if (n < 0 || n > 48 || 4 * n > s.tape.size()) {
            return -2;
        }
        int answer = -1;
        for (int k = n - 1; k >= 0; k--) {
            int v = 0;
            for (int j = 0; j < 4; j++) {
                v = v << 8 | s.tape.get(4 * k + j);
            }
            if (v != (k < s.eggs.size() ? s.eggs.get(k).minutes : 0)) {
                answer = k;
            }
        }
        s.tape.clear();
        return answer;
    }

    private static int bits(boolean[] told) {
        int bits = 0;
        for (int k = 0; k < 8; k++) {
            bits |= told[k] ? 1 << k : 0;
        }
        return bits;
    }

    private int inState(int state) {
        return (int) s.eggs.stream().filter(e -> e.state == state).count();
    }

    int count(int what) {
        if (what >= 20 && what < 28) {
            return s.hens[what - 20] ? s.kind[what - 20] : -1;
        }
        if (what >= 30 && what < 38) {
            return s.hens[what - 30] ? s.henOwner[what - 30] : -1;
        }
        if (what < 0 || what > 10) {
            return -1;
        }
        return new int[] {s.day, s.eggs.size(), inState(0), inState(1), inState(2), clauses, s.tape.size(), s.x,
            bits(s.people), bits(s.hens), bits(s.works)}[what];
    }
}
