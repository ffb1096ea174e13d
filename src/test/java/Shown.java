import java.util.NoSuchElementException;

/**
 * All that a desk tells, as one text: two desks of which nothing tells the difference show the same.
 * It undoes what can be undone and reads the tape, so the desk is spent by it.
 */
final class Shown {
    // A desk answers as promised for 512 calls; what a test does ahead of this has the rest.
    private static final int MOST_CALLS = 450;
    private static final int WHOLE_ITEMS = 6;

    private final DeferredDesk desk;
    private final StringBuilder text = new StringBuilder();
    private int calls;

    private Shown(DeferredDesk desk) {
        this.desk = desk;
    }

    /** With the tape and the fault. */
    static String of(DeferredDesk desk) {
        Shown shown = new Shown(desk);
        shown.add("tape", desk.now(7));
        shown.add("fault", desk.fault());
        shown.addBook();
        shown.addProfitsOfNow();
        shown.addActs();
        shown.add("text of the tape", desk.text());
        shown.add("its fault", desk.fault());
        shown.addNow();
        return shown.told();
    }

    /** Without the tape and the fault. */
    static String bookOf(DeferredDesk desk) {
        Shown shown = new Shown(desk);
        shown.addBook();
        shown.addProfitsOfNow();
        shown.addActs();
        return shown.told();
    }

    private String told() {
        if (calls > MOST_CALLS) {
            throw new IllegalStateException("showing a desk took " + calls + " calls");
        }
        return text.toString();
    }

    private void add(String call, int answer) {
        calls++;
        text.append(call).append(' ').append(answer).append('\n');
    }

    private void addNow() {
        for (int what = 0; what <= 6; what++) {
            add("now " + what, desk.now(what));
        }
    }

    private void addBook() {
        addNow();
        int now = desk.now(0);
        int offices = desk.now(2);
        int items = desk.now(3);
        int losses = desk.now(4);
        calls += 4;
        for (int item = 0; item < items; item++) {
            addItem(item, item < WHOLE_ITEMS ? new int[] {0, 1, 2, 3, 4, 5, 101, 102, 103, 139} : new int[] {2, 5});
        }
        for (int loss = 0; loss < losses; loss++) {
            for (int what = 0; what <= 3; what++) {
                add("loss " + loss + " " + what, desk.loss(loss, what));
            }
        }
        for (int office = 0; office < offices; office++) {
            addYears(office, now);
            addClosings(office, now);
        }
        for (int office = -1; office < offices; office++) {
            for (int what = 0; what <= 4; what++) {
                add("balance " + office + " " + what, desk.balance(office, what));
            }
        }
    }

    private void addItem(int item, int[] whats) {
        for (int what : whats) {
            add("item " + item + " " + what, desk.item(item, what));
        }
    }

    private void addYears(int office, int now) {
        for (int year : new int[] {0, now, now + 1, now + 2, now + 3, now + 4, now + 5, 38, 39}) {
            add("rate " + office + " " + year, desk.rate(office, year));
            add("cover " + office + " " + year, desk.covered(office, year, 1));
            add("behind " + office + " " + year, desk.covered(office, year, 5));
        }
    }

    private void addClosings(int office, int now) {
        for (int year : new int[] {0, now - 1, now}) {
            for (int what = 0; what <= 6; what++) {
                add("closing " + office + " " + year + " " + what, desk.closing(office, year, what));
            }
        }
    }

    /** No question tells the PROFIT of NOW; expect() does, and can be undone if there is room for it. */
    private void addProfitsOfNow() {
        int now = desk.now(0);
        int offices = desk.now(2);
        boolean room = desk.now(6) < 10;
        calls += 3;
        for (int office = 0; office < offices && room; office++) {
            add("profit of NOW " + office, desk.expect(office, now, 0));
            add("undo", desk.undo());
        }
    }

    /** What each act that is undone brings back, by some sums that hang on all there is. */
    private void addActs() {
        for (int k = 0; k < 11; k++) {
            add("undo", desk.undo());
            add("now 0", desk.now(0));
            add("now 3", desk.now(3));
            add("now 4", desk.now(4));
            add("balance 0", desk.balance(-1, 0));
            add("balance 1", desk.balance(-1, 1));
            add("balance 2", desk.balance(-1, 2));
            add("rate", desk.rate(0, 39));
        }
        boolean throwing = false;
        try {
            desk.item(desk.now(3), 0);
        } catch (NoSuchElementException e) {
            throwing = true;
        }
        calls += 2;
        text.append("no item more ").append(throwing).append('\n');
        addProfitsOfNow();
    }
}
