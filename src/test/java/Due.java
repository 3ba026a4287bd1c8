/** Compares answers with those that are due, and ends a test with exit code 1 if one was wrong. */
final class Due {
    private static int wrong = 0;
    private static int asked = 0;

    private Due() {
    }

    static void is(String call, long got, long want) {
        asked++;
        if (got != want) {
            wrong++;
            System.out.println(call + " answered " + got + ", due is " + want);
        }
    }

    static void is(String call, boolean got, boolean want) {
        is(call, got ? 1L : 0L, want ? 1L : 0L);
    }

    static void end() {
        System.out.println(asked + " answers, " + wrong + " not as due");
        if (wrong != 0 || asked == 0) {
            System.exit(1);
        }
    }

    /** Feeds a text that is filled up with zeros to 20 or 40 bytes. */
    static void feed(FlockPass x, String text) {
        for (int from = 0; from < Math.max(1, text.length()); from += 20) {
            int[] words = new int[5];
            for (int i = 0; i < 20; i++) {
                int sign = from + i < text.length() ? text.charAt(from + i) : 0;
                words[i / 4] |= sign << (24 - 8 * (i % 4));
            }
            x.feed(words[0], words[1], words[2], words[3], words[4]);
        }
    }

    /** Feeds a text and takes it as RULES. */
    static int rules(FlockPass x, String text) {
        feed(x, text);
        return x.rules(text.length());
    }

    static void days(FlockPass x, int n) {
        for (int i = 0; i < n; i++) {
            x.day(0, 0);
        }
    }
}
