/** What the tests share: the ERRORS by their numbers, how an answer is asked, and how a HEAP is begun. */
abstract class Ask {
    static final int LOW = -1000000;
    static final int BEYOND = -1000001;
    static final int NONE = -1000002;
    static final int STATE = -1000003;
    static final int FULL = -1000004;
    static final int KIND = -1000005;
    static final int PARTED = -1000006;
    static final int MIN = Integer.MIN_VALUE;
    static final int MAX = Integer.MAX_VALUE;
    private static int asked = 0;
    private static int wrong = 0;

    static void is(int promise, long got, long want) {
        is("promise " + promise, got, want);
    }

    static void is(String sentence, long got, long want) {
        asked++;
        if (got != want) {
            wrong++;
            System.out.println(sentence + " (line " + lineAsked() + "): answered " + got + ", due is " + want);
        }
    }

    // The line of the test itself, not of what it shares with others.
    private static int lineAsked() {
        for (StackTraceElement call : Thread.currentThread().getStackTrace()) {
            if (call.getClassName().endsWith("Test")) return call.getLineNumber();
        }
        return 0;
    }

    /** Says how many were asked, and ends with 1 if one answer was not the due one. */
    static void end() {
        System.out.println(asked + " answers asked, " + wrong + " are not as due");
        if (wrong != 0 || asked == 0) System.exit(1);
    }

    /** Feeds the bytes of a text, eight by eight. */
    static void feed(SmokyHeap x, String text) {
        for (int at = 0; at < text.length(); at += 8) {
            int n = Math.min(8, text.length() - at);
            long word = 0;
            for (int k = n - 1; k >= 0; k--) word = word << 8 | text.charAt(at + k);
            x.feed(word, n);
        }
    }

    /** Feeds a text and makes it the TEXT of a USE. */
    static int law(SmokyHeap x, int use, String text) {
        feed(x, text);
        return x.text(use);
    }

    /** So many ARMFULS of a KIND, dry and of STUFF 100, on a column. */
    static void pile(SmokyHeap x, int kind, int column, int many) {
        for (int k = 0; k < many; k++) x.lay(kind, column, 100, 0);
    }
}
