/** Towns that tests begin with, and all that can be asked of one. */
final class Towns {
    private Towns() {
    }

    /** Two people, hen 0 of kind 1 owned by person 0, and a law. */
    static EggTown town(String law) {
        EggTown x = new EggTown();
        x.person(0);
        x.person(1);
        x.hen(0, 1, 0);
        Checks.law(x, law);
        return x;
    }

    /** A town whose person 0 has whole eggs of just these minutes: each day's number picks them. */
    static EggTown withEggs(String more, int... minutes) {
        StringBuilder law = new StringBuilder();
        for (int k = 0; k < minutes.length; k++) {
            law.append(k == 0 ? "" : ";").append("l").append(minutes[k]).append("(d=").append(k).append(")");
        }
        law.append(more.isEmpty() ? "" : ";").append(more);
        EggTown x = town(law.toString());
        x.days(minutes.length);
        return x;
    }

    /** So many eggs of so many minutes each, all of person 0 and laid on one day after the other. */
    static EggTown withLikeEggs(String more, int eggs, int minutes) {
        EggTown x = town("l" + minutes + "(1=1)" + (more.isEmpty() ? "" : ";" + more));
        x.days(eggs);
        return x;
    }

    static int nextX(int x) {
        return (int) ((25173L * x + 13849) % 65536);
    }

    /** X behind so many draws. */
    static int xBehind(int seed, int draws) {
        int x = seed;
        for (int k = 0; k < draws; k++) {
            x = nextX(x);
        }
        return x;
    }

    /** A seed whose first draw is just that. */
    static int seedOf(int draw) {
        for (int seed = 0; seed < 65536; seed++) {
            if (nextX(seed) % 10 == draw) {
                return seed;
            }
        }
        return -1;
    }

    /** THE DAY is set far on, by days in which nothing is laid: ahead of the first hen. */
    static EggTown onDay(int day) {
        EggTown x = new EggTown();
        for (int left = day; left > 0; left -= 60) {
            x.days(Math.min(60, left));
        }
        return x;
    }

    /** All that can be asked of a town but THE LAW, in one row. */
    static int[] all(EggTown x) {
        int[] row = new int[11 + 16 + 48 * 6 + 8 * 13];
        int at = 0;
        for (int what = 0; what < 11; what++) {
            row[at++] = what == 5 ? 0 : x.count(what);
        }
        for (int k = 0; k < 8; k++) {
            row[at++] = x.count(20 + k);
            row[at++] = x.count(30 + k);
            for (int what = 0; what < 7; what++) {
                row[at++] = x.personIs(k, what);
            }
            for (int what = 0; what < 6; what++) {
                row[at++] = x.workIs(k, what);
            }
        }
        for (int i = 0; i < 48; i++) {
            for (int what = 0; what < 6; what++) {
                row[at++] = x.egg(i, what);
            }
        }
        return row;
    }
}
