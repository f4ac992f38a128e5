/** A town whose hours are hatched: ../shared/DOC.md says what each call answers. */
public final class EggTown {
    public static final int NONE = -1;

    private static final int NOT_SO = -2;
    private static final int WRONG = -3;
    private static final int NO_SUCH_THEFT = -1000000000;

    private static final int PLACES = 8;
    private static final int KINDS = 4;
    private static final int EGGS_MOST = 48;
    private static final int EGG_MOST = 240;
    private static final int BROODED_MOST = 9;
    private static final int LIVED_MOST = 999999;
    private static final int LAST_DAY = 9999;
    private static final int THOUSAND_MOST = 999;
    private static final int WANTED_MOST = 9999;
    private static final int DAYS_MOST = 60;
    private static final int SEED_MOST = 65535;

    private static final int TAPE_MOST = 260;
    private static final int FEED_BYTES = 20;
    private static final int LAW_MOST = 240;
    private static final int CLAUSES_MOST = 16;
    private static final int ACTS_MOST = 140;
    private static final int LINES_MOST = 24;
    private static final int HANDFUL_MOST = 8;
    private static final int OPEN_MOST = 6;
    private static final int DIGITS_MOST = 5;

    private static final int WHOLE = 0;
    private static final int BROKEN = 1;
    private static final int BAD = 2;

    private static final int CANT_STAND = 1;
    private static final int SIXTH_DIGIT = 2;
    private static final int TOO_HIGH = 3;
    private static final int TOO_MANY = 4;
    private static final int TOO_DEEP = 5;
    private static final int NINTH_EGG = 6;
    private static final int EGG_TWICE = 7;

    private static final String LAW_LETTERS = "lfbhpt";
    private static final int LAYS = 0;
    private static final int STRIKES = 1;
    private static final int GOES_BAD = 2;
    private static final int HATCHES = 3;
    private static final int PAYS = 4;
    private static final int TOWARDS = 5;
    private static final int[] LAW_BOUNDS = {240, 10, 99, 60, 999, 240};

    private static final String VALUE_LETTERS = "dwykrmacoin";
    private static final int VALUES = 11;
    private static final int THE_DAY = 0;
    private static final int WEEK_DAY = 1;
    private static final int THE_HEN = 2;
    private static final int THE_KIND = 3;
    private static final int THE_DRAW = 4;
    private static final int THE_MINUTES = 5;
    private static final int DAYS_AGO = 6;
    private static final int TIMES_BROODED = 7;
    private static final int THE_OWNER = 8;
    private static final int THE_WORK = 9;
    private static final int HOW_MANY_SELL = 10;

    // Every other operation of the law's code is the sign that it has in the text.
    private static final int NUMBER = '#';
    private static final int LETTER = '$';
    private static final int OP_BITS = 7;
    private static final int OP_MASK = 127;
    private static final int STACK_MOST = 64;

    private static final int PLAN_EGGS = 10;
    private static final int PLAN_WORKS = 4;
    // No more than 252 sets of ten eggs can stand with none of them inside another.
    private static final int PLAN_SETS = 252;
    private static final int PLAN_HOPES = 11;
    private static final int PLAN_WEIGHT = 16;
    private static final int BASKET_EGGS = 12;
    private static final int YOLK_EGGS = 10;
    private static final int BEFORE_DAYS = 40;
    private static final int FLOCK_HENS = 20;
    private static final int FLOCK_DAYS = 12;
    private static final int RATION_EGGS = 8;
    private static final int RATION_PEOPLE = 3;
    private static final int HOARDERS = 5;
    private static final int LEAST_RATION = 10;

    private final Tape tape = new Tape();
    private final Tape keptTape = new Tape();
    private final Town now = new Town();
    private final Town kept = new Town();
    private final Town trial = new Town();
    private boolean hasKept = false;
    private Law ruling = new Law();
    private Law spare = new Law();
    private final Acts lines = new Acts();
    private final Plan planning = new Plan();
    private final Sets sets = new Sets();
    private final int[] handful = new int[EGGS_MOST];
    private final int[] lastDays = new int[EGGS_MOST];
    private final int[] room = new int[BEFORE_DAYS];
    private final int[] hours = new int[FLOCK_HENS + 1];
    private final int[] shares = new int[RATION_PEOPLE];
    private final int[] row = new int[RATION_EGGS];
    private final int[] bestRow = new int[RATION_EGGS];
    private final int[] worths = new int[HOARDERS + 2];

    public EggTown() {
    }

    public boolean person(int p) {
        return now.people.tell(p);
    }

    public boolean hen(int y, int kind, int owner) {
        if (!isWithin(y, 0, PLACES - 1) || !isWithin(kind, 0, KINDS - 1) || !now.people.isTold(owner)) {
            return false;
        }
        now.hens.tell(y, kind, owner);
        return true;
    }

    public boolean fox(int y) {
        if (!now.hens.isTold(y)) {
            return false;
        }
        now.hens.told &= ~(1 << y);
        return true;
    }

    public boolean work(int i, int needs, int worth, int by) {
        if (!isWithin(i, 0, PLACES - 1) || !isWithin(needs, 1, THOUSAND_MOST)
                || !isWithin(worth, 0, THOUSAND_MOST) || !isWithin(by, 0, LAST_DAY)) {
            return false;
        }
        now.works.tell(i, needs, worth, by);
        return true;
    }

    public int clean() {
        return now.eggs.sweepOut();
    }

    public int feed(int a, int b, int c, int d, int e) {
        if (tape.size + FEED_BYTES > TAPE_MOST) {
            return NONE;
        }
        tape.addWord(a);
        tape.addWord(b);
        tape.addWord(c);
        tape.addWord(d);
        tape.addWord(e);
        return tape.size;
    }

    public int law(int n) {
        if (!tape.holds(n, 1, LAW_MOST, 1)) {
            return NONE;
        }
        tape.startText(n);
        boolean right = LawReader.read(tape, spare);
        tape.size = 0;
        if (!right) {
            return tape.faultAnswer();
        }
        Law before = ruling;
        ruling = spare;
        spare = before;
        return ruling.clauses;
    }

    public int acts(int n) {
        if (!tape.holds(n, 1, ACTS_MOST, 1)) {
            return NONE;
        }
        if (!readActs(n)) {
            return tape.faultAnswer();
        }
        int done = 0;
        for (int k = 0; k < lines.size; k++) {
            if (lines.canBe(k, now)) {
                lines.carryOut(k, now, ruling);
                done++;
            }
        }
        return done;
    }

    public int judged(int n) {
        if (!tape.holds(n, 1, ACTS_MOST, 1)) {
            return NONE;
        }
        if (!readActs(n)) {
            return tape.faultAnswer();
        }
        trial.copyFrom(now);
        for (int k = 0; k < lines.size; k++) {
            if (!lines.canBe(k, trial)) {
                return k;
            }
            lines.carryOut(k, trial, ruling);
        }
        return lines.size;
    }

    private boolean readActs(int n) {
        tape.startText(n);
        boolean right = lines.read(tape);
        tape.size = 0;
        return right;
    }

    public int days(int n) {
        if (!isWithin(n, 1, DAYS_MOST)) {
            return NONE;
        }
        now.passDays(n, ruling);
        return now.laidEggs;
    }

    public int tried(int n, int what) {
        if (!isWithin(n, 1, DAYS_MOST) || !isWithin(what, 0, 4)) {
            return NONE;
        }
        trial.copyFrom(now);
        trial.passDays(n, ruling);
        switch (what) {
            case 0:
                return trial.laidEggs;
            case 1:
                return trial.laidMinutes;
            case 2:
                return trial.badEggs;
            case 3:
                return trial.strikes;
            default:
                return trial.eggs.howMany(WHOLE);
        }
    }

    public int egg(int i, int what) {
        if (!now.eggs.isLaid(i)) {
            return NONE;
        }
        switch (what) {
            case 0:
                return now.eggs.minutes[i];
            case 1:
                return now.eggs.laidOn[i];
            case 2:
                return now.eggs.layer[i];
            case 3:
                return now.eggs.owner[i];
            case 4:
                return now.eggs.brooded[i];
            case 5:
                return now.eggs.state[i];
            case 6:
                return firstBadDay(i);
            default:
                return NONE;
        }
    }

    private int firstBadDay(int egg) {
        int b = ruling.ofEgg(GOES_BAD, now, egg, 0);
        return b > 0 ? now.eggs.laidOn[egg] + b : NOT_SO;
    }

    public int personIs(int p, int what) {
        if (!now.people.isTold(p)) {
            return NONE;
        }
        switch (what) {
            case 0:
                return now.people.lived[p];
            case 1:
                return now.people.laid[p];
            case 2:
                return now.people.givenTo[p];
            case 3:
                return now.people.givenBy[p];
            case 4:
                return now.eggs.wholeOf(p, handful, EGGS_MOST);
            case 5:
                return now.eggs.minutesOf(p);
            case 6:
                return now.hens.howManyOf(p);
            default:
                return NONE;
        }
    }

    public int workIs(int i, int what) {
        if (!now.works.isTold(i)) {
            return NONE;
        }
        switch (what) {
            case 0:
                return now.works.needs[i];
            case 1:
                return now.works.done[i];
            case 2:
                return now.works.worth[i];
            case 3:
                return now.works.by[i];
            case 4:
                return now.works.isDone(i) ? 1 : 0;
            case 5:
                return now.works.isInTime(i, now.day) ? 1 : 0;
            default:
                return NONE;
        }
    }

    public int plan(int p, int works, int what) {
        int known = now.works.told;
        int asked = isWithin(works, 1, (1 << PLACES) - 1) ? Integer.bitCount(works) : 0;
        boolean isRow = isWithin(what, 10, 10 + PLACES - 1) && isIn(works, what - 10);
        if (!now.people.isTold(p) || !isWithin(asked, 1, PLAN_WORKS) || (works & ~known) != 0
                || !isWithin(what, 0, 1) && !isRow) {
            return NONE;
        }
        for (int i = 0; i < PLACES; i++) {
            if (isIn(works, i) && now.works.isDone(i)) {
                return NOT_SO;
            }
        }
        planning.find(now, ruling, p, works);
        if (what == 0) {
            return planning.bestWorth();
        }
        return what == 1 ? planning.bestEggs() : planning.rowOf(what - 10);
    }

    public int before(int p, int each, int n) {
        if (!now.people.isTold(p) || !isWithin(each, 1, HANDFUL_MOST) || !isWithin(n, 1, BEFORE_DAYS)) {
            return NONE;
        }
        int size = now.eggs.wholeOf(p, handful, EGGS_MOST);
        for (int k = 0; k < size; k++) {
            int bad = firstBadDay(handful[k]);
            lastDays[k] = bad == NOT_SO ? n : Math.min(n, bad - now.day);
        }
        for (int day = 0; day < n; day++) {
            room[day] = each;
        }
        int total = 0;
        for (int k = 0; k < size; k++) {
            int best = mostMinutes(size);
            if (isWithin(best, 0, size - 1)) {
                total += takesRoom(lastDays[best]) ? now.eggs.minutes[handful[best]] : 0;
                handful[best] = NONE;
            }
        }
        return total;
    }

    private int mostMinutes(int size) {
        int best = NONE;
        int most = NONE;
        for (int k = 0; k < size; k++) {
            int egg = handful[k];
            if (now.eggs.isLaid(egg) && now.eggs.minutes[egg] > most) {
                best = k;
                most = now.eggs.minutes[egg];
            }
        }
        return best;
    }

    // The latest day that has room leaves the earlier ones to eggs that go bad sooner.
    private boolean takesRoom(int days) {
        for (int day = Math.min(days, BEFORE_DAYS) - 1; day >= 0; day--) {
            if (room[day] > 0) {
                room[day]--;
                return true;
            }
        }
        return false;
    }

    public int flock(int hens, int n, int what) {
        if (!isWithin(hens, 1, FLOCK_HENS) || !isWithin(n, 1, FLOCK_DAYS) || !isWithin(what, 0, 1)) {
            return NONE;
        }
        for (int h = 0; h <= FLOCK_HENS; h++) {
            hours[h] = 0;
        }
        int hatched = 0;
        for (int day = 0; day < n; day++) {
            // So many hens ask only for as many or more, whose hours are still those from the next day on.
            for (int h = 1; h <= FLOCK_HENS; h++) {
                int best = bestHatch(h);
                hatched = h == hens ? best : hatched;
                hours[h] = h - best + hours[h + best];
            }
        }
        return what == 0 ? hours[hens] : hatched;
    }

    // How many of h eggs to hatch, if hours[] tells what each number of hens yields from the next day on.
    private int bestHatch(int h) {
        int best = 0;
        int most = NONE;
        for (int x = 0; x <= h && h + x <= FLOCK_HENS; x++) {
            int inAll = h - x + hours[h + x];
            if (inAll > most) {
                most = inAll;
                best = x;
            }
        }
        return best;
    }

    public int rations(int n, int m, int what) {
        if (!tape.holds(n, 1, RATION_EGGS, 1) || !isWithin(m, 2, RATION_PEOPLE)) {
            return NONE;
        }
        boolean right = tellEggs(n, WHOLE);
        tape.size = 0;
        if (!right) {
            return NOT_SO;
        }
        if (what != LEAST_RATION && !isWithin(what, 0, n - 1)) {
            return WRONG;
        }
        for (int q = 0; q < RATION_PEOPLE; q++) {
            shares[q] = 0;
        }
        int least = share(0, n, m, NONE);
        return what == LEAST_RATION ? least : bestRow[what];
    }

    // Goes through all rows from the least one on and keeps the first of the best; answers what its least share is.
    private int share(int place, int n, int m, int best) {
        if (place >= n || place >= RATION_EGGS) {
            int least = Math.min(shares[0], shares[1]);
            least = m > 2 ? Math.min(least, shares[2]) : least;
            if (least > best) {
                System.arraycopy(row, 0, bestRow, 0, RATION_EGGS);
            }
            return Math.max(least, best);
        }
        int minutes = now.eggs.minutesAt(handful[place]);
        int most = best;
        for (int q = 0; q < m && q < RATION_PEOPLE; q++) {
            row[place] = q;
            shares[q] += minutes;
            most = share(place + 1, n, m, most);
            shares[q] -= minutes;
        }
        return most;
    }

    // The first n bytes of the tape, as different eggs that are all so.
    private boolean tellEggs(int n, int state) {
        for (int k = 0; k < n && k < EGGS_MOST; k++) {
            int egg = tape.byteAt(k);
            if (!now.eggs.isLaid(egg) || now.eggs.state[egg] != state) {
                return false;
            }
            for (int j = 0; j < k; j++) {
                if (handful[j] == egg) {
                    return false;
                }
            }
            handful[k] = egg;
        }
        return true;
    }

    public int hoards(int n, int what) {
        if (!tape.holds(n, 2, HOARDERS, 2) || !isWithin(what, 0, 1)) {
            return NONE;
        }
        boolean right = true;
        for (int k = 0; k < n; k++) {
            handful[k] = tape.pairAt(2 * k);
            right = right && handful[k] <= THOUSAND_MOST;
        }
        tape.size = 0;
        if (!right) {
            return WRONG;
        }
        for (int k = 1; k <= n; k++) {
            worths[k] = ruling.ofSellers(now, k);
        }
        int found = 0;
        int lowest = NOT_SO;
        for (int bits = (1 << n) - 1; bits >= 0; bits--) {
            if (isSteady(bits, n)) {
                found++;
                lowest = bits;
            }
        }
        return what == 0 ? found : lowest;
    }

    private boolean isSteady(int sellers, int n) {
        int sell = Integer.bitCount(sellers);
        for (int k = 0; k < n; k++) {
            if (isIn(sellers, k) ? handful[k] > worths[sell] : worths[sell + 1] > handful[k]) {
                return false;
            }
        }
        return true;
    }

    public int yolks(int n, int minutes, int what) {
        if (!tape.holds(n, 1, YOLK_EGGS, 1) || !isWithin(minutes, 0, WANTED_MOST) || !isWithin(what, 0, 1)) {
            return NONE;
        }
        boolean right = tellEggs(n, BROKEN);
        tape.size = 0;
        if (!right) {
            return WRONG;
        }
        int once = sets.fill(now.eggs, handful, n);
        sets.find(minutes - once);
        return what == 0 ? sets.found : sets.least;
    }

    public int thefts(int what) {
        if (now.people.isTold(what)) {
            return now.people.excess(what);
        }
        if (!isWithin(what, 10, 11)) {
            return NO_SUCH_THEFT;
        }
        int most = 0;
        int who = NOT_SO;
        int some = 0;
        for (int p = 0; p < PLACES; p++) {
            int excess = now.people.isTold(p) ? now.people.excess(p) : 0;
            some += excess > 0 ? 1 : 0;
            who = excess > most ? p : who;
            most = Math.max(most, excess);
        }
        return what == 10 ? who : some;
    }

    public int baskets(int p, int minutes, int what) {
        if (!now.people.isTold(p) || !isWithin(minutes, 0, WANTED_MOST) || !isWithin(what, 0, 1)) {
            return NONE;
        }
        int size = now.eggs.wholeOf(p, handful, BASKET_EGGS);
        sets.fill(now.eggs, handful, size);
        sets.find(minutes);
        return what == 0 ? sets.found : sets.fewest;
    }

    public int latest(int i, int k) {
        if (!now.works.isTold(i) || !isWithin(k, 1, THOUSAND_MOST)) {
            return NONE;
        }
        if (now.works.isDone(i)) {
            return WRONG;
        }
        int missing = now.works.needs[i] - now.works.done[i];
        int start = now.works.by[i] + 1 - (missing + k - 1) / k;
        return start < now.day ? NOT_SO : start;
    }

    public int soonest(int i, int p) {
        if (!now.works.isTold(i) || p != PLACES && !now.people.isTold(p)) {
            return NONE;
        }
        if (now.works.isDone(i)) {
            return WRONG;
        }
        if (p != PLACES) {
            return daysTillDone(i, p, DAYS_MOST);
        }
        int who = NOT_SO;
        int fewest = DAYS_MOST + 1;
        for (int q = 0; q < PLACES; q++) {
            int days = now.people.isTold(q) ? daysTillDone(i, q, fewest - 1) : NOT_SO;
            if (days >= 0) {
                who = q;
                fewest = days;
            }
        }
        return who;
    }

    private int daysTillDone(int i, int p, int most) {
        trial.copyFrom(now);
        for (int days = 0; days <= most; days++) {
            trial.breakAllFor(i, p, ruling);
            if (trial.works.isDone(i)) {
                return days;
            }
            // All its eggs are broken: without a hen that can lay there is no use in waiting.
            if (!trial.canLayFor(p) || days < most && !trial.passDay(ruling)) {
                return NOT_SO;
            }
        }
        return NOT_SO;
    }

    public int barter(int a, int b, int wantsA, int wantsB, int what) {
        if (!now.people.isTold(a) || !now.people.isTold(b) || a == b || !isWithin(wantsA, 0, WANTED_MOST)
                || !isWithin(wantsB, 0, WANTED_MOST) || !isWithin(what, 0, 2)) {
            return NONE;
        }
        int overA = now.eggs.minutesOf(a) - wantsA;
        int overB = now.eggs.minutesOf(b) - wantsB;
        int found = 0;
        int first = NOT_SO;
        for (int x = now.eggs.size - 1; x >= 0; x--) {
            for (int y = now.eggs.size - 1; y >= 0 && now.eggs.isWholeOf(x, a); y--) {
                int more = now.eggs.minutes[y] - now.eggs.minutes[x];
                if (now.eggs.isWholeOf(y, b) && isNearer(overA, more) && isNearer(overB, -more)) {
                    found++;
                    first = what == 1 ? x : y;
                }
            }
        }
        return what == 0 ? found : first;
    }

    private static boolean isNearer(int over, int more) {
        return Math.abs(over + more) < Math.abs(over);
    }

    public boolean seed(int x) {
        if (!isWithin(x, 0, SEED_MOST)) {
            return false;
        }
        now.x = x;
        return true;
    }

    public int keep() {
        kept.copyFrom(now);
        keptTape.copyFrom(tape);
        hasKept = true;
        return now.eggs.howMany(WHOLE);
    }

    public boolean undo() {
        if (!hasKept) {
            return false;
        }
        now.copyFrom(kept);
        tape.copyFrom(keptTape);
        return true;
    }

    public int check(int n) {
        if (!tape.holds(n, 0, EGGS_MOST, 4)) {
            return NOT_SO;
        }
        int wrong = NONE;
        for (int k = n - 1; k >= 0; k--) {
            wrong = tape.wordAt(4 * k) == now.eggs.minutesAt(k) ? wrong : k;
        }
        tape.size = 0;
        return wrong;
    }

    public int count(int what) {
        if (isWithin(what, 20, 20 + PLACES - 1)) {
            return now.hens.isTold(what - 20) ? now.hens.kind[what - 20] : NONE;
        }
        if (isWithin(what, 30, 30 + PLACES - 1)) {
            return now.hens.isTold(what - 30) ? now.hens.owner[what - 30] : NONE;
        }
        switch (what) {
            case 0:
                return now.day;
            case 1:
                return now.eggs.size;
            case 2:
                return now.eggs.howMany(WHOLE);
            case 3:
                return now.eggs.howMany(BROKEN);
            case 4:
                return now.eggs.howMany(BAD);
            case 5:
                return ruling.clauses;
            case 6:
                return tape.size;
            case 7:
                return now.x;
            case 8:
                return now.people.told;
            case 9:
                return now.hens.told;
            case 10:
                return now.works.told;
            default:
                return NONE;
        }
    }

    private static boolean isWithin(int number, int least, int most) {
        return number >= least && number <= most;
    }

    private static boolean isIn(int bits, int place) {
        return place >= 0 && place < PLACES && (bits >> place & 1) == 1;
    }

    private static boolean isDigit(int sign) {
        return sign >= '0' && sign <= '9';
    }

    /** The bytes that are fed, and the place in them up to which a text has been read. */
    private static final class Tape {
        final int[] bytes = new int[TAPE_MOST];
        int size = 0;
        int end = 0;
        int at = 0;
        int fault = 0;

        void addWord(int word) {
            for (int shift = 24; shift >= 0 && size < TAPE_MOST; shift -= 8) {
                bytes[size] = word >>> shift & 255;
                size++;
            }
        }

        boolean holds(int n, int least, int most, int bytesEach) {
            return n >= least && n <= most && n * bytesEach <= size;
        }

        int byteAt(int place) {
            return place >= 0 && place < size ? bytes[place] : NONE;
        }

        int pairAt(int place) {
            return byteAt(place) << 8 | byteAt(place + 1);
        }

        int wordAt(int place) {
            return pairAt(place) << 16 | pairAt(place + 2);
        }

        void startText(int n) {
            end = n;
            at = 0;
            fault = 0;
        }

        int sign() {
            return at >= 0 && at < end && at < size ? bytes[at] : NONE;
        }

        boolean takes(int sign) {
            if (sign() != sign) {
                return fails(CANT_STAND);
            }
            at++;
            return true;
        }

        boolean fails(int kind) {
            fault = kind;
            return false;
        }

        boolean failsAt(int kind, int place) {
            at = place;
            return fails(kind);
        }

        int faultAnswer() {
            return -1000 * fault - at;
        }

        void copyFrom(Tape other) {
            System.arraycopy(other.bytes, 0, bytes, 0, TAPE_MOST);
            size = other.size;
        }
    }

    private static final class Hens {
        int told = 0;
        // It stays when a hen is gone: the law asks an egg for the kind of the hen that laid it.
        final int[] kind = new int[PLACES];
        final int[] owner = new int[PLACES];

        boolean isTold(int y) {
            return isIn(told, y);
        }

        void tell(int y, int itsKind, int itsOwner) {
            told |= 1 << y;
            kind[y] = itsKind;
            owner[y] = itsOwner;
        }

        int howManyOf(int p) {
            int found = 0;
            for (int y = 0; y < PLACES; y++) {
                found += isTold(y) && owner[y] == p ? 1 : 0;
            }
            return found;
        }

        void copyFrom(Hens other) {
            told = other.told;
            System.arraycopy(other.kind, 0, kind, 0, PLACES);
            System.arraycopy(other.owner, 0, owner, 0, PLACES);
        }
    }

    private static final class People {
        int told = 0;
        final int[] lived = new int[PLACES];
        final int[] laid = new int[PLACES];
        final int[] givenTo = new int[PLACES];
        final int[] givenBy = new int[PLACES];

        boolean isTold(int p) {
            return isIn(told, p);
        }

        boolean tell(int p) {
            if (p < 0 || p >= PLACES || isTold(p)) {
                return false;
            }
            told |= 1 << p;
            return true;
        }

        void live(int p, int minutes) {
            lived[p] = Math.min(LIVED_MOST, lived[p] + minutes);
        }

        int excess(int p) {
            return lived[p] - laid[p] - givenTo[p] + givenBy[p];
        }

        void copyFrom(People other) {
            told = other.told;
            System.arraycopy(other.lived, 0, lived, 0, PLACES);
            System.arraycopy(other.laid, 0, laid, 0, PLACES);
            System.arraycopy(other.givenTo, 0, givenTo, 0, PLACES);
            System.arraycopy(other.givenBy, 0, givenBy, 0, PLACES);
        }
    }

    private static final class Eggs {
        int size = 0;
        final int[] minutes = new int[EGGS_MOST];
        final int[] laidOn = new int[EGGS_MOST];
        final int[] layer = new int[EGGS_MOST];
        final int[] owner = new int[EGGS_MOST];
        final int[] brooded = new int[EGGS_MOST];
        final int[] state = new int[EGGS_MOST];

        boolean isLaid(int i) {
            return i >= 0 && i < size && i < EGGS_MOST;
        }

        boolean isWhole(int i) {
            return isLaid(i) && state[i] == WHOLE;
        }

        boolean isWholeOf(int i, int p) {
            return isWhole(i) && owner[i] == p;
        }

        int minutesAt(int i) {
            return isLaid(i) ? minutes[i] : 0;
        }

        int howMany(int ofState) {
            int found = 0;
            for (int i = 0; i < size; i++) {
                found += state[i] == ofState ? 1 : 0;
            }
            return found;
        }

        int minutesOf(int p) {
            int sum = 0;
            for (int i = 0; i < size; i++) {
                sum += isWholeOf(i, p) ? minutes[i] : 0;
            }
            return sum;
        }

        // The lowest ones that are whole, into a row; answers how many these are.
        int wholeOf(int p, int[] into, int most) {
            int found = 0;
            for (int i = 0; i < size && found < most && found < into.length; i++) {
                if (isWholeOf(i, p)) {
                    into[found] = i;
                    found++;
                }
            }
            return found;
        }

        void lay(int itsMinutes, int day, int hen, int itsOwner) {
            if (size < EGGS_MOST) {
                minutes[size] = itsMinutes;
                laidOn[size] = day;
                layer[size] = hen;
                owner[size] = itsOwner;
                brooded[size] = 0;
                state[size] = WHOLE;
                size++;
            }
        }

        int sweepOut() {
            int whole = 0;
            for (int i = 0; i < size; i++) {
                if (state[i] == WHOLE) {
                    minutes[whole] = minutes[i];
                    laidOn[whole] = laidOn[i];
                    layer[whole] = layer[i];
                    owner[whole] = owner[i];
                    brooded[whole] = brooded[i];
                    state[whole] = WHOLE;
                    whole++;
                }
            }
            int gone = size - whole;
            size = whole;
            return gone;
        }

        void copyFrom(Eggs other) {
            size = other.size;
            System.arraycopy(other.minutes, 0, minutes, 0, EGGS_MOST);
            System.arraycopy(other.laidOn, 0, laidOn, 0, EGGS_MOST);
            System.arraycopy(other.layer, 0, layer, 0, EGGS_MOST);
            System.arraycopy(other.owner, 0, owner, 0, EGGS_MOST);
            System.arraycopy(other.brooded, 0, brooded, 0, EGGS_MOST);
            System.arraycopy(other.state, 0, state, 0, EGGS_MOST);
        }
    }

    private static final class Works {
        int told = 0;
        final int[] needs = new int[PLACES];
        final int[] done = new int[PLACES];
        final int[] worth = new int[PLACES];
        final int[] by = new int[PLACES];
        final int[] doneOn = new int[PLACES];

        boolean isTold(int i) {
            return isIn(told, i);
        }

        void tell(int i, int itNeeds, int itsWorth, int byDay) {
            told |= 1 << i;
            needs[i] = itNeeds;
            done[i] = 0;
            worth[i] = itsWorth;
            by[i] = byDay;
            doneOn[i] = 0;
        }

        boolean isDone(int i) {
            return isTold(i) && done[i] >= needs[i];
        }

        boolean isInTime(int i, int day) {
            return (isDone(i) ? doneOn[i] : day) <= by[i];
        }

        void add(int i, int minutes, int day) {
            if (!isDone(i)) {
                done[i] = Math.min(needs[i], done[i] + minutes);
                doneOn[i] = day;
            }
        }

        void copyFrom(Works other) {
            told = other.told;
            System.arraycopy(other.needs, 0, needs, 0, PLACES);
            System.arraycopy(other.done, 0, done, 0, PLACES);
            System.arraycopy(other.worth, 0, worth, 0, PLACES);
            System.arraycopy(other.by, 0, by, 0, PLACES);
            System.arraycopy(other.doneOn, 0, doneOn, 0, PLACES);
        }
    }

    /** All that is kept and undone, and what the days that passed last brought. */
    private static final class Town {
        int day = 0;
        int x = 1;
        final Hens hens = new Hens();
        final People people = new People();
        final Eggs eggs = new Eggs();
        final Works works = new Works();
        int laidEggs = 0;
        int laidMinutes = 0;
        int badEggs = 0;
        int strikes = 0;

        void copyFrom(Town other) {
            day = other.day;
            x = other.x;
            hens.copyFrom(other.hens);
            people.copyFrom(other.people);
            eggs.copyFrom(other.eggs);
            works.copyFrom(other.works);
        }

        void passDays(int n, Law law) {
            laidEggs = 0;
            laidMinutes = 0;
            badEggs = 0;
            strikes = 0;
            for (int k = 0; k < n; k++) {
                if (!passDay(law)) {
                    return;
                }
            }
        }

        boolean passDay(Law law) {
            if (day >= LAST_DAY) {
                return false;
            }
            for (int y = 0; y < PLACES; y++) {
                if (hens.isTold(y)) {
                    strikeOrLay(y, law);
                }
            }
            for (int i = 0; i < eggs.size; i++) {
                if (eggs.isWhole(i)) {
                    mayGoBad(i, law);
                }
            }
            day++;
            return true;
        }

        boolean canLayFor(int p) {
            return eggs.size < EGGS_MOST && hens.howManyOf(p) > 0;
        }

        private int draw() {
            x = (25173 * x + 13849) & SEED_MOST;
            return x % 10;
        }

        private void strikeOrLay(int y, Law law) {
            if (draw() < law.ofHen(STRIKES, this, y, 0)) {
                strikes++;
            } else if (eggs.size < EGGS_MOST) {
                int minutes = law.ofHen(LAYS, this, y, draw());
                int owner = hens.owner[y];
                eggs.lay(minutes, day, y, owner);
                people.laid[owner] += minutes;
                laidEggs++;
                laidMinutes += minutes;
            }
        }

        private void mayGoBad(int i, Law law) {
            int b = law.ofEgg(GOES_BAD, this, i, 0);
            if (b > 0 && day - eggs.laidOn[i] >= b) {
                eggs.state[i] = BAD;
                badEggs++;
            }
        }

        void breakEgg(int i) {
            eggs.state[i] = BROKEN;
            people.live(eggs.owner[i], eggs.minutes[i]);
        }

        void breakFor(int i, int work, Law law) {
            works.add(work, law.ofEgg(TOWARDS, this, i, work), day);
            breakEgg(i);
        }

        void breakAllFor(int work, int p, Law law) {
            for (int i = 0; i < eggs.size; i++) {
                if (eggs.isWholeOf(i, p)) {
                    breakFor(i, work, law);
                }
            }
        }

        void give(int i, int p) {
            people.givenBy[eggs.owner[i]] += eggs.minutes[i];
            people.givenTo[p] += eggs.minutes[i];
            eggs.owner[i] = p;
        }

        void brood(int i, Law law) {
            int more = law.ofEgg(HATCHES, this, i, 0);
            eggs.minutes[i] = Math.min(EGG_MOST, eggs.minutes[i] + more);
            eggs.brooded[i]++;
        }
    }

    /** Clauses as code for a machine with a stack, and the letters' values for the one that is asked. */
    private static final class Law {
        int clauses = 0;
        final int[] letter = new int[CLAUSES_MOST];
        final int[] valueAt = new int[CLAUSES_MOST];
        final int[] conditionAt = new int[CLAUSES_MOST];
        final int[] endAt = new int[CLAUSES_MOST];
        int size = 0;
        final int[] code = new int[LAW_MOST];
        final int[] told = new int[VALUES];
        final int[] stack = new int[STACK_MOST];
        int top = 0;

        void emit(int op, int rest) {
            if (size < LAW_MOST) {
                code[size] = rest << OP_BITS | op;
                size++;
            }
        }

        // Where an & or | finds that no more matters, it goes to the place that is reached now.
        void aim(int place) {
            if (place >= 0 && place < size) {
                code[place] = size << OP_BITS | code[place] & OP_MASK;
            }
        }

        int ofHen(int what, Town town, int y, int draw) {
            start(town, y);
            told[THE_DRAW] = draw;
            told[THE_OWNER] = town.hens.owner[y];
            return ask(what);
        }

        int ofEgg(int what, Town town, int i, int work) {
            start(town, town.eggs.layer[i]);
            told[THE_MINUTES] = town.eggs.minutes[i];
            told[DAYS_AGO] = town.day - town.eggs.laidOn[i];
            told[TIMES_BROODED] = town.eggs.brooded[i];
            told[THE_OWNER] = town.eggs.owner[i];
            told[THE_WORK] = work;
            return ask(what);
        }

        int ofSellers(Town town, int n) {
            start(town, NONE);
            told[HOW_MANY_SELL] = n;
            return ask(PAYS);
        }

        private void start(Town town, int y) {
            for (int k = 0; k < VALUES; k++) {
                told[k] = 0;
            }
            told[THE_DAY] = town.day;
            told[WEEK_DAY] = town.day % 7;
            if (y >= 0 && y < PLACES) {
                told[THE_HEN] = y;
                told[THE_KIND] = town.hens.kind[y];
            }
        }

        private int ask(int what) {
            for (int k = 0; k < clauses && k < CLAUSES_MOST; k++) {
                if (letter[k] == what && run(conditionAt[k], endAt[k]) != 0) {
                    return Math.max(0, Math.min(LAW_BOUNDS[what], run(valueAt[k], conditionAt[k])));
                }
            }
            return 0;
        }

        // What is refused is 0: a value of 0, or a condition that does not hold.
        private int run(int from, int to) {
            top = 0;
            int at = from;
            for (int k = 0; k < LAW_MOST && at >= 0 && at < to && at < LAW_MOST; k++) {
                int op = code[at] & OP_MASK;
                int rest = code[at] >>> OP_BITS;
                at++;
                if (op == NUMBER) {
                    push(rest);
                } else if (op == LETTER) {
                    push(rest < VALUES ? told[rest] : 0);
                } else if (op == '!') {
                    push(1 - pop());
                } else if (op == '&' || op == '|') {
                    int held = pop();
                    if (held == (op == '|' ? 1 : 0)) {
                        push(held);
                        at = rest;
                    }
                } else {
                    int right = pop();
                    if (right == 0 && (op == '/' || op == '%')) {
                        return 0;
                    }
                    push(reckon(op, pop(), right));
                }
            }
            return pop();
        }

        private void push(int value) {
            if (top < STACK_MOST) {
                stack[top] = value;
                top++;
            }
        }

        private int pop() {
            if (top <= 0) {
                return 0;
            }
            top--;
            return stack[top];
        }

        private static int reckon(int op, int left, int right) {
            switch (op) {
                case '+':
                    return left + right;
                case '-':
                    return left - right;
                case '*':
                    return left * right;
                case '<':
                    return left < right ? 1 : 0;
                case '>':
                    return left > right ? 1 : 0;
                case '=':
                    return left == right ? 1 : 0;
                case '/':
                    return right == 0 ? 0 : left / right;
                default:
                    return right == 0 ? 0 : left % right;
            }
        }
    }

    /** Reads a law's text into code; open tells how many of ( [ ! stand open around a place. */
    private static final class LawReader {
        static boolean read(Tape text, Law law) {
            law.clauses = 0;
            law.size = 0;
            for (int k = 0; k <= CLAUSES_MOST; k++) {
                if (!clause(text, law, k)) {
                    return false;
                }
                if (text.sign() == NONE) {
                    return true;
                }
                if (!text.takes(';')) {
                    return false;
                }
            }
            return text.fails(TOO_MANY);
        }

        private static boolean clause(Tape text, Law law, int k) {
            int letter = placeIn(LAW_LETTERS, text.sign());
            if (letter < 0) {
                return text.fails(CANT_STAND);
            }
            if (k < 0 || k >= CLAUSES_MOST) {
                return text.fails(TOO_MANY);
            }
            text.at++;
            law.letter[k] = letter;
            law.valueAt[k] = law.size;
            if (!sum(text, law, 0)) {
                return false;
            }
            law.conditionAt[k] = law.size;
            if (!text.takes('(') || !condition(text, law, 1) || !text.takes(')')) {
                return false;
            }
            law.endAt[k] = law.size;
            law.clauses = k + 1;
            return true;
        }

        // An & or | that ends the question aims at the next one of its row, which ends it again, till the row ends.
        private static boolean condition(Tape text, Law law, int open) {
            int lastAnd = NONE;
            int lastOr = NONE;
            for (int k = 0; k < LAW_MOST; k++) {
                if (!piece(text, law, open)) {
                    return false;
                }
                law.aim(lastAnd);
                int sign = text.sign();
                if (sign == '&') {
                    lastAnd = law.size;
                } else {
                    law.aim(lastOr);
                    if (sign != '|') {
                        return true;
                    }
                    lastAnd = NONE;
                    lastOr = law.size;
                }
                text.at++;
                law.emit(sign, 0);
            }
            return text.fails(CANT_STAND);
        }

        private static boolean piece(Tape text, Law law, int open) {
            int sign = text.sign();
            if (sign != '!' && sign != '(') {
                return comparison(text, law, open);
            }
            if (open >= OPEN_MOST) {
                return text.fails(TOO_DEEP);
            }
            text.at++;
            if (sign == '(') {
                return condition(text, law, open + 1) && text.takes(')');
            }
            if (!piece(text, law, open + 1)) {
                return false;
            }
            law.emit('!', 0);
            return true;
        }

        private static boolean comparison(Tape text, Law law, int open) {
            if (!sum(text, law, open)) {
                return false;
            }
            int sign = text.sign();
            if (sign != '<' && sign != '>' && sign != '=') {
                return text.fails(CANT_STAND);
            }
            text.at++;
            if (!sum(text, law, open)) {
                return false;
            }
            law.emit(sign, 0);
            return true;
        }

        // A + or - waits till the term behind it has ended.
        private static boolean sum(Tape text, Law law, int open) {
            int waiting = NONE;
            int sign = NONE;
            for (int k = 0; k < LAW_MOST; k++) {
                if (!factor(text, law, open)) {
                    return false;
                }
                if (sign == '*' || sign == '/' || sign == '%') {
                    law.emit(sign, 0);
                }
                sign = text.sign();
                if (sign != '*' && sign != '/' && sign != '%') {
                    if (waiting != NONE) {
                        law.emit(waiting, 0);
                    }
                    if (sign != '+' && sign != '-') {
                        return true;
                    }
                    waiting = sign;
                }
                text.at++;
            }
            return text.fails(CANT_STAND);
        }

        private static boolean factor(Tape text, Law law, int open) {
            int sign = text.sign();
            if (isDigit(sign)) {
                return number(text, law);
            }
            if (sign == '[') {
                if (open >= OPEN_MOST) {
                    return text.fails(TOO_DEEP);
                }
                text.at++;
                return sum(text, law, open + 1) && text.takes(']');
            }
            int letter = placeIn(VALUE_LETTERS, sign);
            if (letter < 0) {
                return text.fails(CANT_STAND);
            }
            text.at++;
            law.emit(LETTER, letter);
            return true;
        }

        private static boolean number(Tape text, Law law) {
            int value = 0;
            for (int k = 0; k < DIGITS_MOST && isDigit(text.sign()); k++) {
                value = 10 * value + text.sign() - '0';
                text.at++;
            }
            if (isDigit(text.sign())) {
                return text.fails(SIXTH_DIGIT);
            }
            law.emit(NUMBER, value);
            return true;
        }

        private static int placeIn(String letters, int sign) {
            return sign < 0 ? NONE : letters.indexOf((char) sign);
        }
    }

    /** The lines of a text of acts: each has the eggs of a row from its start to the next one's. */
    private static final class Acts {
        int size = 0;
        private final int[] signs = new int[LINES_MOST];
        private final int[] targets = new int[LINES_MOST];
        private final int[] starts = new int[LINES_MOST + 1];
        private final int[] eggs = new int[ACTS_MOST];
        private int told = 0;

        boolean read(Tape text) {
            told = 0;
            size = 0;
            for (int k = 0; k <= LINES_MOST; k++) {
                if (!line(text, k)) {
                    return false;
                }
                if (text.sign() == NONE) {
                    return true;
                }
                if (!text.takes(',')) {
                    return false;
                }
            }
            return text.fails(TOO_MANY);
        }

        private boolean line(Tape text, int k) {
            int sign = text.sign();
            if (!isDigit(sign) && sign != '(') {
                return text.fails(CANT_STAND);
            }
            if (k < 0 || k >= LINES_MOST) {
                return text.fails(TOO_MANY);
            }
            starts[k] = told;
            if (sign == '(' ? !someEggs(text) : !oneEgg(text, told)) {
                return false;
            }
            starts[k + 1] = told;
            size = k + 1;
            return whatIsDone(text, k);
        }

        private boolean someEggs(Tape text) {
            int first = told;
            text.at++;
            for (int k = 0; k < HANDFUL_MOST; k++) {
                if (!oneEgg(text, first)) {
                    return false;
                }
                if (text.sign() == ')') {
                    text.at++;
                    return true;
                }
                if (!text.takes('+')) {
                    return false;
                }
            }
            return text.fails(isDigit(text.sign()) ? NINTH_EGG : CANT_STAND);
        }

        private boolean oneEgg(Tape text, int first) {
            int place = text.at;
            if (!isDigit(text.sign())) {
                return text.fails(CANT_STAND);
            }
            int egg = 0;
            for (int k = 0; k < 2 && isDigit(text.sign()); k++) {
                egg = 10 * egg + text.sign() - '0';
                text.at++;
            }
            if (egg >= EGGS_MOST) {
                return text.failsAt(TOO_HIGH, place);
            }
            for (int k = first; k < told; k++) {
                if (eggs[k] == egg) {
                    return text.failsAt(EGG_TWICE, place);
                }
            }
            if (told < ACTS_MOST) {
                eggs[told] = egg;
                told++;
            }
            return true;
        }

        private boolean whatIsDone(Tape text, int k) {
            int sign = text.sign();
            if (sign != '>' && sign != '!' && sign != '.' && sign != '*') {
                return text.fails(CANT_STAND);
            }
            text.at++;
            signs[k] = sign;
            targets[k] = NONE;
            if (sign == '.' || sign == '*') {
                return true;
            }
            int digit = text.sign();
            if (!isDigit(digit)) {
                return text.fails(CANT_STAND);
            }
            if (digit - '0' >= PLACES) {
                return text.fails(TOO_HIGH);
            }
            text.at++;
            targets[k] = digit - '0';
            return true;
        }

        boolean canBe(int k, Town town) {
            int sign = signs[k];
            int target = targets[k];
            if (sign == '>' && !town.people.isTold(target)
                    || sign == '!' && (!town.works.isTold(target) || town.works.isDone(target))) {
                return false;
            }
            for (int j = starts[k]; j < starts[k + 1]; j++) {
                int egg = eggs[j];
                if (!town.eggs.isWhole(egg) || sign == '>' && town.eggs.owner[egg] == target
                        || sign == '*' && town.eggs.brooded[egg] >= BROODED_MOST) {
                    return false;
                }
            }
            return true;
        }

        void carryOut(int k, Town town, Law law) {
            for (int j = starts[k]; j < starts[k + 1]; j++) {
                int egg = eggs[j];
                switch (signs[k]) {
                    case '>':
                        town.give(egg, targets[k]);
                        break;
                    case '!':
                        town.breakFor(egg, targets[k], law);
                        break;
                    case '.':
                        town.breakEgg(egg);
                        break;
                    default:
                        town.brood(egg, law);
                        break;
                }
            }
        }
    }

    /** Which eggs for which works: only sets that lose a work with each egg that is left out come in question. */
    private static final class Plan {
        private final int[] eggs = new int[PLAN_EGGS];
        private final int[] towards = new int[PLAN_EGGS];
        private int size = 0;
        private int works = 0;
        private final int[] numbers = new int[PLAN_WORKS];
        private final int[] worth = new int[PLAN_WORKS];
        private final int[] fit = new int[PLAN_WORKS * PLAN_SETS];
        private final int[] fits = new int[PLAN_WORKS];
        private final int[] fewest = new int[PLAN_WORKS];
        private final int[] hope = new int[(PLAN_WORKS + 1) * PLAN_HOPES];
        private final int[] row = new int[PLAN_WORKS];
        private final int[] bestRow = new int[PLAN_WORKS];
        private int best = NONE;

        void find(Town town, Law law, int p, int asked) {
            size = town.eggs.wholeOf(p, eggs, PLAN_EGGS);
            works = 0;
            for (int i = 0; i < PLACES && works < PLAN_WORKS; i++) {
                if (isIn(asked, i)) {
                    numbers[works] = i;
                    worth[works] = town.works.worth[i];
                    findFits(town, law, i);
                    works++;
                }
            }
            findHopes();
            best = NONE;
            choose(0, (1 << size) - 1, 0);
        }

        private void findFits(Town town, Law law, int work) {
            int missing = town.works.needs[work] - town.works.done[work];
            for (int k = 0; k < size; k++) {
                towards[k] = law.ofEgg(TOWARDS, town, eggs[k], work);
            }
            fits[works] = 0;
            fewest[works] = PLAN_EGGS + 1;
            for (int bits = 1; bits < 1 << size; bits++) {
                if (isFit(bits, missing) && fits[works] < PLAN_SETS) {
                    fit[works * PLAN_SETS + fits[works]] = bits;
                    fits[works]++;
                    fewest[works] = Math.min(fewest[works], Integer.bitCount(bits));
                }
            }
        }

        private boolean isFit(int bits, int missing) {
            int sum = 0;
            int least = EGG_MOST;
            for (int k = 0; k < size; k++) {
                if ((bits >> k & 1) == 1) {
                    sum += towards[k];
                    least = Math.min(least, towards[k]);
                }
            }
            return sum >= missing && sum - least < missing;
        }

        // What the works from k on can add at the most with so many eggs: as if they never wanted the same ones.
        private void findHopes() {
            for (int free = 0; free <= PLAN_EGGS; free++) {
                hope[works * PLAN_HOPES + free] = 0;
                for (int k = works - 1; k >= 0; k--) {
                    int next = (k + 1) * PLAN_HOPES;
                    int left = free - fewest[k];
                    int more = left < 0 ? 0 : gain(k, fewest[k]) + hope[next + left];
                    hope[k * PLAN_HOPES + free] = Math.max(hope[next + free], more);
                }
            }
        }

        // One number for both: a worth of one more outweighs all the eggs that it may cost.
        private int gain(int k, int cost) {
            return worth[k] * PLAN_WEIGHT - cost;
        }

        // Rows come from the least one on, so that the first of like ones stays.
        private void choose(int k, int free, int had) {
            if (k >= works || k >= PLAN_WORKS) {
                if (had > best) {
                    best = had;
                    System.arraycopy(row, 0, bestRow, 0, PLAN_WORKS);
                }
                return;
            }
            row[k] = 0;
            int hoped = had + hope[k * PLAN_HOPES + Integer.bitCount(free)];
            if (hoped > best) {
                choose(k + 1, free, had);
            }
            for (int j = 0; j < fits[k] && hoped > best; j++) {
                int bits = fit[k * PLAN_SETS + j];
                if ((bits & ~free) == 0) {
                    row[k] = bits;
                    choose(k + 1, free & ~bits, had + gain(k, Integer.bitCount(bits)));
                }
            }
        }

        int bestWorth() {
            return (best + PLAN_EGGS) / PLAN_WEIGHT;
        }

        int bestEggs() {
            return bestWorth() * PLAN_WEIGHT - best;
        }

        int rowOf(int work) {
            for (int k = 0; k < works; k++) {
                if (numbers[k] == work) {
                    return bestRow[k];
                }
            }
            return NONE;
        }
    }

    /** Sets of eggs that come to just so many minutes. */
    private static final class Sets {
        int found = 0;
        int least = NOT_SO;
        int fewest = NOT_SO;
        private final int[] minutes = new int[BASKET_EGGS];
        private int size = 0;

        int fill(Eggs eggs, int[] row, int n) {
            int sum = 0;
            size = Math.min(n, Math.min(row.length, BASKET_EGGS));
            for (int k = 0; k < size; k++) {
                minutes[k] = eggs.minutesAt(row[k]);
                sum += minutes[k];
            }
            return sum;
        }

        // Each set differs from the one before it by a single egg, so that the sum needs no loop.
        void find(int wanted) {
            found = 0;
            least = NOT_SO;
            fewest = NOT_SO;
            int bits = 0;
            int sum = 0;
            for (int step = 0; step < 1 << size; step++) {
                if (step > 0) {
                    int k = Integer.bitCount((step & -step) - 1);
                    bits ^= 1 << k;
                    sum += (bits >> k & 1) == 1 ? minutes[k] : -minutes[k];
                }
                if (sum == wanted) {
                    note(bits);
                }
            }
        }

        private void note(int bits) {
            found++;
            least = least < 0 || bits < least ? bits : least;
            int more = fewest < 0 ? NONE : Integer.bitCount(bits) - Integer.bitCount(fewest);
            fewest = more < 0 || more == 0 && bits < fewest ? bits : fewest;
        }
    }
}
