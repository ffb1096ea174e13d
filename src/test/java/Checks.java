import java.util.NoSuchElementException;

/** What the tests share: telling a desk a text, and counting answers that are not due. */
final class Checks {
    private int wrong;

    void due(String call, long got, long want) {
        if (got != want) {
            wrong++;
            System.out.println(call + " answered " + got + ", due is " + want);
        }
    }

    void dueThrow(String call, DeferredDesk desk, boolean ofItem, int number, int what) {
        try {
            int got = ofItem ? desk.item(number, what) : desk.loss(number, what);
            wrong++;
            System.out.println(call + " answered " + got + ", due is NoSuchElementException");
        } catch (NoSuchElementException e) {
            // as due
        }
    }

    void finish() {
        System.out.println(wrong == 0 ? "all answers are as due" : wrong + " answers are not as due");
        if (wrong != 0) {
            System.exit(1);
        }
    }

    /** Feeds a text (padded with zero bytes) and cuts the tape to its length. */
    static void tell(DeferredDesk desk, String text) {
        desk.end(0);
        for (int k = 0; k < text.length(); k += 20) {
            desk.feed(word(text, k), word(text, k + 4), word(text, k + 8), word(text, k + 12), word(text, k + 16));
        }
        desk.end(text.length());
    }

    static int read(DeferredDesk desk, String text) {
        tell(desk, text);
        return desk.text();
    }

    static DeferredDesk desk(String text) {
        DeferredDesk desk = new DeferredDesk();
        int lines = read(desk, text);
        if (lines < 0) {
            throw new IllegalArgumentException("a test's text has a fault at " + (-1 - lines) + ": " + text);
        }
        return desk;
    }

    private static int word(String text, int from) {
        int word = 0;
        for (int k = from; k < from + 4; k++) {
            word = word << 8 | (k < text.length() ? text.charAt(k) & 255 : 0);
        }
        return word;
    }
}
