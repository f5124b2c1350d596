/** What the project's tests share: wrong answers are printed and counted. */
final class Checks {
    static final int BEYOND = -1000000001;
    static final int NONE = -1000000002;
    static final int STATE = -1000000003;
    static final int FULL = -1000000004;
    static final int KIND = -1000000005;

    private static int wrong = 0;
    private static int asked = 0;

    private Checks() {
    }

    static void due(String what, long got, long want) {
        asked++;
        if (got != want) {
            wrong++;
            System.out.println(what + " answered " + got + ", due is " + want);
        }
    }

    static void holds(String what, boolean is) {
        asked++;
        if (!is) {
            wrong++;
            System.out.println(what + " does not hold");
        }
    }

    /** Feeds a text to THE TAPE; the answer of the last feed. */
    static int feed(IcicleRings x, String bytes) {
        int last = 0;
        for (int i = 0; i < bytes.length(); i += 8) {
            int n = Math.min(8, bytes.length() - i);
            long word = 0;
            for (int k = 0; k < n; k++) {
                word |= (long) (bytes.charAt(i + k) & 255) << 8 * k;
            }
            last = x.feed(word, n);
        }
        return last;
    }

    static void end() {
        System.out.println(wrong == 0 ? asked + " answers are as due" : wrong + " of " + asked + " are not as due");
        if (wrong != 0) {
            System.exit(1);
        }
    }
}
