/** Counts the answers that are not due, and prints them. */
final class Check {
    static final int BEYOND = -1000000001;
    static final int FULL = -1000000002;
    static final int KIND = -1000000003;
    static final int NONE = -1000000004;
    static final int STATE = -1000000005;
    static final int MISSING = -1000000006;
    static final int SIZE = -1000000007;

    static final int GUEST = 0;
    static final int ENEMY = 1;
    static final int SINGER = 2;
    static final int LATE = 3;
    static final int DIVA = 4;
    static final int RIVAL = 5;

    private int asked = 0;
    private int wrong = 0;
    private String promise = "";

    void promise(int number, String name) {
        promise = "promise " + number + " (" + name + ")";
    }

    void due(String call, long got, long want) {
        asked++;
        if (got != want) {
            wrong++;
            System.out.println(promise + ": " + call + " answered " + got + ", due is " + want);
        }
    }

    void end() {
        System.out.println(asked + " answers asked, " + wrong + " not as due");
        if (wrong != 0) {
            System.exit(1);
        }
    }

    /** Feeds a text, four bytes a call. */
    static void feed(ComposedInterval x, String text) {
        for (int i = 0; i < text.length(); i += 4) {
            int n = Math.min(4, text.length() - i);
            int bytes = 0;
            for (int j = 0; j < n; j++) {
                bytes = bytes << 8 | text.charAt(i + j);
            }
            x.feed(bytes, n);
        }
    }

    /** Lets minutes go, in calls of at most 200. */
    static void pass(ComposedInterval x, int minutes) {
        for (int left = minutes; left > 0; left -= 200) {
            x.minutes(Math.min(200, left));
        }
    }
}
