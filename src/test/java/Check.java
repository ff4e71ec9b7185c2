/** What the tests share: due() notes each answer that is not the one that is due. */
final class Check {
    private static int wrong = 0;
    private static int asked = 0;

    private Check() {
    }

    static void due(String call, long got, long want) {
        asked++;
        if (got != want) {
            wrong++;
            System.out.println(call + " answered " + got + ", due is " + want);
        }
    }

    static void feed(ThirteenthBun x, String text) {
        for (int from = 0; from < text.length(); from += 8) {
            int n = Math.min(8, text.length() - from);
            long eight = 0;
            for (int i = 0; i < n; i++) {
                eight |= (text.charAt(from + i) & 255L) << 8 * i;
            }
            x.feed(eight, n);
        }
    }

    static int tell(ThirteenthBun x, String text) {
        feed(x, text);
        return x.rules();
    }

    /** Ends the test: with exit code 1 if an answer was wrong, or if there was none. */
    static void end() {
        System.out.println(asked + " answers, " + wrong + " not as due");
        if (wrong != 0 || asked == 0) {
            System.exit(1);
        }
    }
}
