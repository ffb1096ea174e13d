/**
 * 'What it is', phrase by phrase, as one story of a desk, worked out by hand; and the words of 'Terms' that lead in what
 * the tests of the bounds go through.
 */
public final class OverviewTest {
    private static final String WHAT = "What it is";
    private static final String TEXT = "carry 2;office 250;office 100;rate 0 3 300;profit 0 4 500;taxable 0 300 1 3;"
        + "deductible 0 1000 2 3;deductible 1 400 1 2;taxable 1 1000 5 5;loss 0 150 2;loss 0 60 1;";
    private static final Sentences S = new Sentences();

    public static void main(String[] args) {
        DeferredDesk desk = new DeferredDesk();
        told(desk);
        covered(desk);
        supposed(desk);
        closed(desk);
        settledAndUndone(desk);
        kindsOfItems();
        deductedThenLosses();
        lossesAheadOfTheClosing();
        settledForWhatIsOpen();
        S.finish();
    }

    private static void told(DeferredDesk d) {
        S.of(WHAT, "told as a text");
        S.due("lines", Checks.read(d, TEXT), 11);
        S.of(WHAT, "differences that will be taxed or deducted in years to come, spread over them;");
        int[] taxable = {0, 100, 100, 100, 0};
        int[] deductible = {0, 0, 500, 500, 0};
        for (int t = 0; t < taxable.length; t++) {
            S.due("taxable in " + t, d.item(0, 100 + t), taxable[t]);
            S.due("deductible in " + t, d.item(1, 100 + t), deductible[t]);
        }
        S.of(WHAT, "offices with rates by years and profits expected;");
        S.due("offices", d.now(2), 2);
        S.due("rate in 2", d.rate(0, 2), 250);
        S.due("rate in 3", d.rate(0, 3), 300);
        S.due("rate of the other", d.rate(1, 3), 100);
        S.due("profit in 4", d.covered(0, 4, 1), 500);
    }

    private static void covered(DeferredDesk d) {
        int[][] years = {{100, 100, 0, 0, 100, 110}, {100, 100, 500, 100, 0, 400}, {100, 100, 500, 100, 0, 800},
            {0, 500, 0, 0, 500, 300}, {0, 0, 0, 0, 0, 0}};
        // In 1 the 60 of LAST 1 come ahead of the 150, of which 110 lapse with 2; in 4 the 400 of 2 ahead of those of 3.
        S.of(WHAT, "losses carried on, the earliest to lapse first;");
        dueYears(d, years, 4, 5);
        S.of(WHAT, "what is covered year by year, what is recognised of it and what is not;");
        dueYears(d, years, 0, 3);
        dueBalance(d, 0, 80, 230, 410, 150);
        dueBalance(d, 1, 100, 0, 400, -100);
        S.of(WHAT, "netted by office,");
        dueBalance(d, -1, 180, 230, 810, 150, 100);
    }

    private static void dueYears(DeferredDesk d, int[][] years, int from, int to) {
        for (int t = 1; t <= years.length; t++) {
            for (int what = from; what <= to; what++) {
                S.due("covered in " + t + ", " + what, d.covered(0, t, what), years[t - 1][what]);
            }
        }
    }

    private static void supposed(DeferredDesk d) {
        S.of(WHAT, "what a rate, a profit would change;");
        S.due("a rate", d.would(0, 3, 400), 200);
        int[] needed = {-2, 400, 400, -2, -2};
        for (int t = 1; t <= needed.length; t++) {
            S.due("a profit in " + t, d.needs(1, t), needed[t - 1]);
        }
    }

    private static void closed(DeferredDesk d) {
        S.of(WHAT, "years closed one by one, their balances kept, each change split into what new rates bring and what else;");
        S.due("the first", d.yearEnd(), 1);
        S.due("a new rate", d.enact(0, 3, 400), 300);
        S.due("the second", d.yearEnd(), 2);
        dueClosing(d, 0, 0, 80, 230, 410, 150, 0, 150, 0);
        dueClosing(d, 1, 0, 100, 0, 400, -100, 0, -100, 0);
        dueClosing(d, 0, 1, 65, 265, 410, 50, 50, 0, 100);
        dueClosing(d, 1, 1, 100, 0, 400, 0, 0, 0, -200);
        S.due("left of the 150", d.loss(0, 3), 110);
        S.due("left of the 60", d.loss(1, 3), 0);
        S.due("the loss of YEAR 1", d.loss(2, 3), 200);
    }

    private static void settledAndUndone(DeferredDesk d) {
        S.of(WHAT, "settled early,");
        S.due("settle", d.settle(3), 1000);
        S.due("in the next YEAR", d.item(3, 103), 1000);
        dueBalance(d, 1, 100, 20, 0, -80);
        S.of(WHAT, "reversed at nought;");
        S.due("a rate of nought", d.enact(1, 3, 0), 100);
        dueBalance(d, 1, 0, 0, 0, 0);
        S.of(WHAT, "acts undone.");
        S.due("undo of the rate", d.undo(), 4);
        dueBalance(d, 1, 100, 20, 0, -80);
        S.due("undo of the settling", d.undo(), 3);
        S.due("undo of YEAR 1", d.undo(), 2);
        S.due("undo of the rate", d.undo(), 1);
        S.due("undo of YEAR 0", d.undo(), 0);
        S.same("all is as it was told", Shown.of(d), Shown.of(Checks.desk(TEXT)));
    }

    private static void dueBalance(DeferredDesk d, int office, int... told) {
        for (int what = 0; what < told.length; what++) {
            S.due("balance " + office + " " + what, d.balance(office, what), told[what]);
        }
    }

    private static void dueClosing(DeferredDesk d, int office, int year, int... told) {
        for (int what = 0; what < told.length; what++) {
            S.due("closing " + office + " " + year + " " + what, d.closing(office, year, what), told[what]);
        }
    }

    private static void kindsOfItems() {
        S.of("Terms", "An ITEM is TAXABLE or DEDUCTIBLE, of an OFFICE, for a SUM;");
        DeferredDesk d = Checks.desk("carry 0;office 1;office 1;taxable 1 70 1 2;deductible 0 50 1 1;");
        d.arises(0, true, 9, 1, 1);
        d.arises(1, false, 8, 1, 1);
        int[][] told = {{1, 1, 70}, {0, 0, 50}, {0, 1, 9}, {1, 0, 8}};
        for (int item = 0; item < told.length; item++) {
            for (int what = 0; what < 3; what++) {
                S.due("item " + item + " " + what, d.item(item, what), told[item][what]);
            }
        }
        S.due("TAXED by the one", d.covered(1, 1, 0), 35);
        S.due("DEDUCTED by the one", d.covered(1, 1, 2), 8);
        S.due("TAXED by the other", d.covered(0, 1, 0), 9);
        S.due("DEDUCTED by the other", d.covered(0, 1, 2), 50);
    }

    private static void deductedThenLosses() {
        S.of("Terms", "Then losses that are there");
        for (int cover : new int[] {0, 29, 30, 31, 70, 71}) {
            DeferredDesk d = Checks.desk("carry 9;office 1;deductible 0 30 2 2;loss 0 40 2;");
            d.expect(0, 2, cover);
            S.due("USED of DEDUCTED by " + cover, d.covered(0, 2, 3), Math.min(30, cover));
            S.due("USED of losses by " + cover, d.covered(0, 2, 4), Math.max(0, Math.min(40, cover - 30)));
        }
    }

    private static void lossesAheadOfTheClosing() {
        S.of("Terms", "A YEAR is CLOSED: first what is left of LOSSES:");
        // The LOSS that YEAR 1 brings is in its own CLOSING, USED by the profit of 2.
        DeferredDesk brought = Sentences.desk(2, "carry 2;office 100;deductible 0 50 1 1;profit 0 2 30;");
        dueClosing(brought, 0, 1, 0, 3, 20, 0, 0, 0, -50);
        // What INCOME of NOW has used of a LOSS is not in the CLOSING any more, though its LAST is above NOW.
        DeferredDesk used = Sentences.desk(1, "carry 2;office 100;loss 0 50 2;profit 0 0 40;profit 0 2 30;");
        dueClosing(used, 0, 0, 0, 1, 0, 1, 0, 1, 40);
    }

    private static void settledForWhatIsOpen() {
        S.of("Promise 18: settle", "FIRST and LAST NOW and 1 (PARTS of NOW and ahead are told no more, INCOME of NOW counts "
            + "none of it): OPEN.");
        DeferredDesk d = Sentences.desk(1, "carry 0;office 1;taxable 0 10 1 3;");
        S.due("what is OPEN of it", d.item(0, 5), 7);
        S.due("settle", d.settle(0), 7);
        S.due("OPEN all the same", d.item(0, 5), 7);
    }
}
