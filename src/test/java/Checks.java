/** Counts the answers that are not as due, and feeds texts and rows of bytes. */
final class Checks {
    static int wrong = 0;
    static long asked = 0;

    private Checks() {
    }

    static void due(String call, long got, long want) {
        asked++;
        if (got != want) {
            wrong++;
            if (wrong <= 50) {
                System.out.println(call + " answered " + got + ", due is " + want);
            }
        }
    }

    static void due(String call, boolean got, boolean want) {
        due(call, got ? 1 : 0, want ? 1 : 0);
    }

    static void end(String name) {
        System.out.println(name + ": " + asked + " answers, " + wrong + " not as due");
        if (wrong != 0) {
            System.exit(1);
        }
    }

    static int[] bytes(String text) {
        int[] bytes = new int[text.length()];
        for (int k = 0; k < bytes.length; k++) {
            bytes[k] = text.charAt(k);
        }
        return bytes;
    }

    /** Feeds bytes, and a's behind them till a feed is full; answers what the last feed did. */
    static int feed(EggTown x, int... bytes) {
        int answer = x.count(6);
        for (int k = 0; k < bytes.length; k += 20) {
            int[] w = words(bytes, k);
            answer = x.feed(w[0], w[1], w[2], w[3], w[4]);
        }
        return answer;
    }

    static int[] words(int[] bytes, int from) {
        int[] words = new int[5];
        for (int j = 0; j < 20; j++) {
            words[j / 4] = words[j / 4] << 8 | (from + j < bytes.length ? bytes[from + j] & 255 : 'a');
        }
        return words;
    }

    static int law(EggTown x, String text) {
        feed(x, bytes(text));
        return x.law(text.length());
    }

    static int acts(EggTown x, String text) {
        feed(x, bytes(text));
        return x.acts(text.length());
    }

    static int judged(EggTown x, String text) {
        feed(x, bytes(text));
        return x.judged(text.length());
    }
}
