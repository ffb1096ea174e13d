/** The bounds of the other terms: NOW, RATE, PROFIT, ITEMS, what is COVERED, how a YEAR is CLOSED, a new TEXT. */
public final class TermBoundsTest {
    private static final int NO_SUM = -100000000;
    private static final Sentences S = new Sentences();

    public static void main(String[] args) {
        calls();
        now();
        ratesFromTheirYearOn();
        profits();
        parts();
        open();
        yearsCovered();
        taxedAndCover();
        deducted();
        lapseOfFurtherLosses();
        lossesUpToTheirLast();
        orderOfLosses();
        lossesAsFarAsCoverIsLeft();
        liability();
        asset();
        unrecognised();
        incomeBelowNought();
        lastOfAFurtherLoss();
        noFurtherLoss();
        incomeAboveNought();
        closingsKept();
        change();
        byRate();
        yearsOneByOne();
        newText();
        S.finish();
    }

    private static DeferredDesk desk(String text) {
        return Checks.desk(text);
    }

    private static DeferredDesk desk(int years, String text) {
        return Sentences.desk(years, text);
    }

    private static void calls() {
        S.of("What it is", "An object is used for at most 512 calls after it has been made;");
        DeferredDesk d = new DeferredDesk();
        S.due("call 1", d.expect(0, 5, 1), 0);
        for (int call = 2; call <= 512; call++) {
            S.due("call " + call, d.expect(0, 5, call), call - 1);
        }
        DeferredDesk busy = new DeferredDesk();
        for (int call = 1; call <= 511; call += 2) {
            busy.loses(0, 5, 9);
            busy.undo();
        }
        S.due("acts undone for 512 calls", busy.now(4), 0);
    }

    private static void now() {
        S.of("Terms", "NOW is a YEAR (0 at first), not closed yet.");
        S.due("of a new object", new DeferredDesk().now(0), 0);
        DeferredDesk d = desk("carry 0;office 5;");
        S.due("of a text", d.now(0), 0);
        S.due("not closed", d.closing(0, 0, 0), NO_SUM);
        for (int year = 1; year <= 39; year++) {
            d.yearEnd();
            S.due("NOW", d.now(0), year);
            S.due("closed", d.closing(0, year - 1, 0), 0);
            S.due("not closed", d.closing(0, year, 0), NO_SUM);
        }
    }

    private static void dueRates(DeferredDesk d, int from, int ahead, int there) {
        for (int year = 0; year <= 39; year++) {
            S.due("rate in " + year, d.rate(0, year), year < from ? ahead : there);
        }
    }

    private static void ratesFromTheirYearOn() {
        S.of("Terms", "Of each OFFICE and YEAR (0 to 39) a RATE: that of 'office', but from each told YEAR on that of 'rate'");
        dueRates(desk("carry 0;office 10;"), 0, 10, 10);
        for (int from : new int[] {0, 1, 20, 38, 39}) {
            DeferredDesk d = desk("carry 0;office 10;office 30;rate 0 " + from + " 20;");
            dueRates(d, from, 10, 20);
            S.due("of another office", d.rate(1, 39), 30);
        }
        DeferredDesk steps = desk("carry 0;office 10;rate 0 4 20;rate 0 5 30;");
        S.due("3", steps.rate(0, 3), 10);
        S.due("4", steps.rate(0, 4), 20);
        S.due("5", steps.rate(0, 5), 30);

        S.of("Terms", "(a later LINE, act takes its place from its YEAR on, for all later YEARS, too)");
        dueRates(desk("carry 0;office 10;rate 0 5 30;rate 0 4 20;"), 4, 10, 20);
        dueRates(desk("carry 0;office 10;rate 0 4 30;rate 0 4 20;"), 4, 10, 20);
        dueRates(desk("carry 0;office 10;rate 0 39 30;rate 0 0 20;"), 0, 10, 20);
        for (int from : new int[] {0, 1, 4, 5}) {
            DeferredDesk d = desk("carry 0;office 10;rate 0 5 30;");
            d.enact(0, from, 20);
            dueRates(d, from, 10, 20);
        }
        DeferredDesk behind = desk("carry 0;office 10;rate 0 5 30;");
        behind.enact(0, 6, 20);
        S.due("5", behind.rate(0, 5), 30);
        S.due("6", behind.rate(0, 6), 20);
        behind.enact(0, 39, 7);
        S.due("38", behind.rate(0, 38), 20);
        S.due("39", behind.rate(0, 39), 7);
    }

    private static void profits() {
        S.of("Terms", "a PROFIT expected (0; a later one takes the place of one)");
        DeferredDesk d = desk("carry 0;office 10;office 10;profit 0 5 7;profit 0 5 9;profit 0 6 99999;profit 0 6 1;"
            + "profit 0 0 3;profit 0 39 4;");
        S.due("of 0", d.expect(0, 0, 3), 3);
        S.due("ahead of it", d.covered(0, 4, 1), 0);
        S.due("the later one", d.covered(0, 5, 1), 9);
        S.due("the later one", d.covered(0, 6, 1), 1);
        S.due("behind it", d.covered(0, 7, 1), 0);
        S.due("of 38", d.covered(0, 38, 1), 0);
        S.due("of 39", d.covered(0, 39, 1), 4);
        S.due("of another office", d.covered(1, 5, 1), 0);
    }

    private static void parts() {
        S.of("Terms", "for FIRST, LAST and m YEARS from the one to the other (both counted): SUM times (t less FIRST and 1) "
            + "by m, cut, less PARTS of all YEARS ahead; 0 outside of them.");
        for (int sum : new int[] {1, 2, 38, 39, 40, 77, 99998, 99999}) {
            for (int[] span : new int[][] {{1, 1}, {1, 2}, {1, 39}, {2, 39}, {5, 7}, {38, 39}, {39, 39}}) {
                dueParts(sum, span[0], span[1]);
            }
        }
        DeferredDesk d = desk("carry 0;office 1;taxable 0 1 1 39;taxable 0 99999 1 39;taxable 0 5 7 8;");
        S.due("1 by 39 in 38", d.item(0, 138), 0);
        S.due("1 by 39 in 39", d.item(0, 139), 1);
        S.due("99999 by 39 in 1", d.item(1, 101), 2564);
        S.due("99999 by 39 in 39", d.item(1, 139), 2565);
        S.due("5 by 2 ahead", d.item(2, 106), 0);
        S.due("5 by 2 in the first", d.item(2, 107), 2);
        S.due("5 by 2 in the last", d.item(2, 108), 3);
        S.due("5 by 2 behind", d.item(2, 109), 0);
    }

    private static void dueParts(int sum, int first, int last) {
        DeferredDesk d = desk("carry 0;office 1;deductible 0 " + sum + " " + first + " " + last + ";");
        int ahead = 0;
        for (int t = 0; t <= 39; t++) {
            int part = t < first || t > last ? 0 : sum * (t - first + 1) / (last - first + 1) - ahead;
            S.due("part of " + sum + " from " + first + " to " + last + " in " + t, d.item(0, 100 + t), part);
            ahead += part;
        }
        S.due("all of " + sum, ahead, sum);
    }

    private static void open() {
        S.of("Terms", "OPEN of it: PARTS of YEARS above NOW together.");
        DeferredDesk d = desk("carry 0;office 1;taxable 0 100 2 4;");
        int[] open = {100, 100, 67, 34, 0, 0};
        for (int year = 0; year < open.length; year++) {
            S.due("NOW is " + year, d.item(0, 5), open[year]);
            d.yearEnd();
        }
        S.due("NOW is 38, LAST 39", desk(38, "carry 0;office 1;taxable 0 39 1 39;").item(0, 5), 1);
        S.due("NOW is 39, LAST 39", desk(39, "carry 0;office 1;taxable 0 39 1 39;").item(0, 5), 0);
    }

    private static void yearsCovered() {
        S.of("Terms", "COVERED by an OFFICE, YEAR by YEAR from NOW and 1 to 39:");
        for (int now : new int[] {0, 1, 20, 37, 38, 39}) {
            DeferredDesk d = desk(now, "carry 0;office 1;taxable 0 39000 1 39;deductible 0 39000 1 39;");
            S.due("NOW", d.covered(0, now, 0), -1);
            S.due("NOW and 1", d.covered(0, now + 1, 0), now == 39 ? -1 : 1000);
            S.due("39", d.covered(0, 39, 0), now == 39 ? -1 : 1000);
            S.due("40", d.covered(0, 40, 0), -1);
            S.due("LIABILITY, 1 for each", d.balance(0, 0), 39 - now);
            S.due("ASSET, 1 for each", d.balance(0, 1), 39 - now);
        }
    }

    private static void taxedAndCover() {
        S.of("Terms", "TAXED in t: PARTS of its TAXABLE ITEMS together; COVER: that and its PROFIT.");
        DeferredDesk d = desk("carry 0;office 1;office 1;taxable 0 5 3 3;taxable 0 7 3 4;taxable 1 900 3 3;"
            + "deductible 0 800 3 3;profit 0 3 20;profit 1 3 99999;");
        S.due("TAXED ahead", d.covered(0, 2, 0), 0);
        S.due("TAXED", d.covered(0, 3, 0), 8);
        S.due("COVER", d.covered(0, 3, 1), 28);
        S.due("TAXED behind", d.covered(0, 4, 0), 4);
        S.due("COVER behind", d.covered(0, 4, 1), 4);
        DeferredDesk most = desk("carry 0;office 1;" + "taxable 0 99999 1 1;".repeat(16) + "profit 0 1 99999;");
        for (int k = 16; k < 30; k++) {
            most.arises(0, true, 99999, 1, 1);
        }
        S.due("COVER of 30 items and a profit", most.covered(0, 1, 1), 31 * 99999);
    }

    private static void deducted() {
        S.of("Terms", "DEDUCTED in t: PARTS of DEDUCTIBLE ITEMS together;");
        DeferredDesk some = desk("carry 0;office 1;office 1;deductible 0 5 3 3;deductible 0 7 3 4;deductible 1 900 3 3;taxable 0 800 3 3;");
        int[] told = {0, 8, 4, 0};
        for (int t = 2; t <= 5; t++) {
            S.due("DEDUCTED in " + t, some.covered(0, t, 2), told[t - 2]);
        }
        S.of("Terms", "of that as much as COVER is USED; what is left of it is a further loss");
        for (int cover : new int[] {0, 1, 9, 10, 11, 99999}) {
            DeferredDesk d = desk("carry 5;office 1;deductible 0 10 3 3;");
            d.expect(0, 3, cover);
            S.due("USED by " + cover, d.covered(0, 3, 3), Math.min(10, cover));
            S.due("left by " + cover, d.covered(0, 3, 5), Math.max(0, 10 - cover));
            S.due("USED of losses", d.covered(0, 3, 4), 0);
        }
    }

    private static void lapseOfFurtherLosses() {
        S.of("Terms", "which lapses with YEAR t and N of 'carry' (with t itself, if N is 0).");
        for (int n : new int[] {0, 1, 2, 19, 20}) {
            String text = "carry " + n + ";office 1;deductible 0 10 5 5;";
            for (int more = 1; more <= 21; more++) {
                DeferredDesk d = desk(text + "profit 0 " + (5 + more) + " 10;");
                boolean inTime = more <= n;
                S.due("N " + n + ", USED " + more + " behind", d.covered(0, 5 + more, 4), inTime ? 10 : 0);
                S.due("N " + n + ", UNRECOGNISED " + more + " behind", d.balance(0, 2), inTime ? 0 : 10);
            }
            DeferredDesk none = desk(text);
            for (int t = 4; t <= 39; t++) {
                S.due("N " + n + ", there behind " + t, none.covered(0, t, 5), t >= 5 && t < 5 + n ? 10 : 0);
            }
        }
        DeferredDesk last = desk("carry 20;office 1;deductible 0 10 19 19;deductible 0 6 20 20;");
        S.due("38 of 19 and 20", last.covered(0, 38, 5), 16);
        S.due("39 is the last of 19", last.covered(0, 39, 5), 6);
        last.expect(0, 39, 99);
        S.due("USED in 39", last.covered(0, 39, 4), 16);
    }

    private static void lossesUpToTheirLast() {
        S.of("Terms", "(those of LOSSES, with what is left of them, that may be used up to their LAST; further ones of YEARS "
            + "ahead, up to their lapse)");
        for (int last : new int[] {1, 2, 20, 38, 39}) {
            DeferredDesk d = desk("carry 0;office 1;loss 0 10 " + last + ";");
            for (int t = 1; t <= 39; t++) {
                S.due("LAST " + last + ", there behind " + t, d.covered(0, t, 5), t < last ? 10 : 0);
            }
            d.expect(0, last, 10);
            S.due("LAST " + last, d.covered(0, last, 4), 10);
        }
        DeferredDesk left = desk("carry 0;office 1;loss 0 10 9;profit 0 0 4;");
        left.yearEnd();
        S.due("what is left of it", left.covered(0, 2, 5), 6);
        // A further one is of YEARS ahead: none of t itself is USED as a loss in t.
        DeferredDesk own = desk("carry 5;office 1;deductible 0 10 3 3;profit 0 3 4;profit 0 4 2;");
        S.due("in its YEAR", own.covered(0, 3, 4), 0);
        S.due("in the next", own.covered(0, 4, 4), 2);

        S.of("Terms", "a loss of a last YEAR below t is not.");
        for (int t : new int[] {5, 6, 7, 39}) {
            DeferredDesk d = desk("carry 0;office 1;loss 0 10 5;profit 0 " + t + " 10;");
            S.due("LAST 5 in " + t, d.covered(0, t, 4), t == 5 ? 10 : 0);
        }
    }

    private static void orderOfLosses() {
        S.of("Terms", "the one of the earliest last YEAR first, of like ones as they came (LOSSES by number, ahead of further ones)");
        // 10 in 2 and 10 in 5: all is USED only if that of LAST 3 comes ahead of that of LAST 5.
        S.due("by LAST", desk("carry 0;office 1;loss 0 10 5;loss 0 10 3;profit 0 2 10;profit 0 5 10;").balance(0, 2), 0);
        S.due("by LAST, told the other way",
            desk("carry 0;office 1;loss 0 10 3;loss 0 10 5;profit 0 2 10;profit 0 5 10;").balance(0, 2), 0);
        S.due("a further one that lapses a YEAR earlier",
            desk("carry 3;office 1;loss 0 10 5;deductible 0 10 1 1;profit 0 2 10;profit 0 5 10;").balance(0, 2), 0);
        S.due("a further one that lapses a YEAR later",
            desk("carry 5;office 1;loss 0 10 5;deductible 0 10 1 1;profit 0 2 10;profit 0 6 10;").balance(0, 2), 0);
        S.due("like ones", desk("carry 4;office 1;loss 0 10 5;deductible 0 10 1 1;profit 0 2 10;profit 0 5 10;").balance(0, 2), 0);
        S.due("like ones, too late for one", desk("carry 4;office 1;loss 0 10 5;deductible 0 10 1 1;profit 0 2 10;"
            + "profit 0 6 10;").balance(0, 2), 10);
        for (int profit : new int[] {0, 1, 9, 10, 11, 19, 20, 21, 29, 30, 31}) {
            DeferredDesk d = desk("carry 0;office 1;loss 0 10 5;loss 0 10 3;loss 0 10 4;");
            d.expect(0, 2, profit);
            S.due(profit + ", there behind 2", d.covered(0, 2, 5), Math.max(0, 30 - profit));
            S.due(profit + ", there behind 3", d.covered(0, 3, 5), Math.min(20, Math.max(0, 30 - profit)));
            S.due(profit + ", there behind 4", d.covered(0, 4, 5), Math.min(10, Math.max(0, 30 - profit)));
            S.due(profit + ", there behind 5", d.covered(0, 5, 5), 0);
        }
        // DEDUCTED of the YEAR comes ahead even of a loss that lapses with it.
        DeferredDesk own = desk("carry 9;office 1;loss 0 10 1;deductible 0 10 1 1;profit 0 1 10;profit 0 2 10;");
        S.due("DEDUCTED first", own.covered(0, 1, 3), 10);
        S.due("no COVER left", own.covered(0, 1, 4), 0);
    }

    private static void lossesAsFarAsCoverIsLeft() {
        S.of("Terms", "are USED, as far as COVER is left;");
        for (int cover : new int[] {0, 4, 5, 6, 14, 15, 16}) {
            DeferredDesk d = desk("carry 0;office 1;deductible 0 5 2 2;loss 0 10 9;");
            d.expect(0, 2, cover);
            int used = Math.max(0, Math.min(10, cover - 5));
            S.due("USED of losses by " + cover, d.covered(0, 2, 4), used);
            S.due("there behind it", d.covered(0, 2, 5), 10 - used);
        }
    }

    private static void liability() {
        S.of("Terms", "LIABILITY: for each of these YEARS TAXED times RATE by 1000, cut, together.");
        int[][] told = {{999, 1, 0}, {1000, 1, 1}, {1001, 1, 1}, {1999, 1, 1}, {2000, 1, 2}, {1, 900, 0}, {2, 500, 1},
            {10, 99, 0}, {10, 100, 1}, {99999, 900, 89999}, {99999, 0, 0}};
        for (int[] row : told) {
            S.due(row[0] + " by " + row[1], desk("carry 0;office " + row[1] + ";taxable 0 " + row[0] + " 1 1;").balance(0, 0), row[2]);
        }
        S.due("each YEAR is cut", desk("carry 0;office 1;taxable 0 1998 1 2;").balance(0, 0), 0);
        S.due("ITEMS of a YEAR together", desk("carry 0;office 1;taxable 0 500 1 1;taxable 0 500 1 1;").balance(0, 0), 1);
        S.due("each YEAR by its RATE", desk("carry 0;office 1;rate 0 2 2;taxable 0 2000 1 2;").balance(0, 0), 3);
        S.due("YEAR 39", desk("carry 0;office 1;rate 0 39 5;taxable 0 2000 38 39;").balance(0, 0), 6);
        DeferredDesk most = desk("carry 0;office 900;" + "taxable 0 99999 39 39;".repeat(16));
        for (int k = 16; k < 30; k++) {
            most.arises(0, true, 99999, 39, 39);
        }
        // 2999970 times 900 is more than an int holds.
        S.due("30 ITEMS", most.balance(0, 0), 2699973);
        S.due("NET of them", most.balance(0, 3), -2699973);
    }

    private static void asset() {
        S.of("Terms", "ASSET: for each what is USED in it (of that YEAR's DEDUCTED, of losses, together) times RATE by 1000, "
            + "cut, together.");
        for (int sum : new int[] {499, 500, 501}) {
            DeferredDesk d = desk("carry 0;office 1;deductible 0 500 1 1;loss 0 " + sum + " 1;profit 0 1 5000;");
            S.due("500 and " + sum, d.balance(0, 1), sum < 500 ? 0 : 1);
        }
        S.due("no more than is USED", desk("carry 0;office 1;deductible 0 2000 1 1;profit 0 1 999;").balance(0, 1), 0);
        S.due("as much as is USED", desk("carry 0;office 1;deductible 0 2000 1 1;profit 0 1 1000;").balance(0, 1), 1);
        S.due("each YEAR is cut", desk("carry 9;office 1;deductible 0 1998 1 1;profit 0 1 999;profit 0 2 999;").balance(0, 1), 0);
        S.due("by the RATE of the YEAR in which it is USED", desk("carry 9;office 1;rate 0 3 7;deductible 0 1000 1 1;"
            + "profit 0 3 1000;").balance(0, 1), 7);
        DeferredDesk most = desk("carry 20;office 900;" + "deductible 0 99999 1 1;".repeat(16));
        for (int k = 16; k < 30; k++) {
            most.arises(0, true, 99999, 1, 1);
        }
        S.due("14 ITEMS used", most.balance(0, 1), 14 * 99999 * 9L / 10);
        S.due("2 are not", most.balance(0, 2), 2 * 99999);
    }

    private static void unrecognised() {
        S.of("Terms", "UNRECOGNISED: OPEN of DEDUCTIBLE ITEMS and what is left of LOSSES of a last YEAR above NOW, less all that is USED.");
        int[] told = {19, 15, 10, 5, 5, 0};
        for (int now = 0; now < told.length; now++) {
            // 4 of LAST 1; 5 of LAST 2; 5 of LAST 3; 5 in YEAR 5: one by one they are gone, though nothing was used.
            DeferredDesk d = desk(now, "carry 0;office 1;loss 0 4 1;loss 0 5 2;loss 0 5 3;deductible 0 5 5 5;");
            S.due("NOW is " + now, d.balance(0, 2), told[now]);
        }
        for (int profit : new int[] {0, 1, 18, 19, 20}) {
            DeferredDesk d = desk("carry 0;office 1;loss 0 4 5;deductible 0 15 5 5;");
            d.expect(0, 5, profit);
            S.due("less " + profit, d.balance(0, 2), Math.max(0, 19 - profit));
        }
        S.due("TAXABLE ones are not", desk("carry 0;office 1;taxable 0 9 1 1;").balance(0, 2), 0);
        S.of("Terms", "NET: ASSET less LIABILITY.");
        DeferredDesk even = desk("carry 0;office 100;taxable 0 10 1 1;deductible 0 10 1 1;");
        S.due("LIABILITY", even.balance(0, 0), 1);
        S.due("ASSET", even.balance(0, 1), 1);
        S.due("NET 0", even.balance(0, 3), 0);
        S.due("NET below 0", desk("carry 0;office 100;taxable 0 10 1 1;").balance(0, 3), -1);
        S.due("NET above 0", desk("carry 0;office 100;profit 0 1 10;deductible 0 10 1 1;").balance(0, 3), 1);
    }

    private static void dueLoss(DeferredDesk d, int loss, int... told) {
        for (int what = 0; what < told.length; what++) {
            S.due("loss " + loss + " " + what, d.loss(loss, what), told[what]);
        }
    }

    private static void incomeBelowNought() {
        S.of("Terms", "PROFIT of NOW and PARTS of TAXABLE ITEMS in NOW, less PARTS of DEDUCTIBLE ones in NOW, is its INCOME; "
            + "below 0: a further LOSS of so much");
        String text = "carry 4;office 1;office 1;deductible 1 30 1 2;taxable 1 9 1 1;profit 1 1 #;";
        for (int profit : new int[] {5, 6, 7}) {
            DeferredDesk d = desk(2, text.replace("#", "" + profit));
            S.due("INCOME", d.closing(1, 1, 6), profit - 6);
            S.due("INCOME of the YEAR ahead", d.closing(1, 0, 6), 0);
            S.due("INCOME of another OFFICE", d.closing(0, 1, 6), 0);
            S.due("LOSSES", d.now(4), profit == 5 ? 1 : 0);
        }
        dueLoss(desk(2, text.replace("#", "5")), 0, 1, 1, 5, 1);
        DeferredDesk most = desk("carry 4;office 1;" + "deductible 0 99999 1 1;".repeat(16));
        for (int k = 16; k < 30; k++) {
            most.arises(0, false, 99999, 1, 1);
        }
        most.yearEnd();
        most.yearEnd();
        dueLoss(most, 0, 0, 2999970, 5, 2999970);
    }

    private static void lastOfAFurtherLoss() {
        S.of("Terms", "as if it was told then with LAST NOW and N (39 at most;");
        int[][] told = {{1, 1, 2}, {1, 20, 21}, {18, 20, 38}, {19, 19, 38}, {19, 20, 39}, {20, 20, 39}, {20, 19, 39},
            {38, 1, 39}, {38, 2, 39}, {38, 20, 39}};
        for (int[] row : told) {
            DeferredDesk d = desk(row[0] + 1, "carry " + row[1] + ";office 1;deductible 0 7 " + row[0] + " " + row[0] + ";");
            dueLoss(d, 0, 0, 7, row[2], 7);
            S.due("there from the CLOSING on", d.closing(0, row[0], 2), 7);
        }
    }

    private static void noFurtherLoss() {
        S.of("Terms", "none if N is 0 or 10 LOSSES are there);");
        for (int n : new int[] {0, 1}) {
            DeferredDesk d = desk(2, "carry " + n + ";office 1;deductible 0 7 1 1;");
            S.due("N is " + n, d.now(4), n);
            S.due("INCOME all the same", d.closing(0, 1, 6), -7);
        }
        for (int losses : new int[] {8, 9, 10}) {
            // All of them have lapsed or are used up by then; they are there all the same.
            DeferredDesk d = desk(3, "carry 5;office 1;profit 0 0 2;deductible 0 7 2 2;" + "loss 0 1 1;".repeat(losses));
            S.due("behind " + losses, d.now(4), Math.min(10, losses + 1));
            S.due("INCOME", d.closing(0, 2, 6), -7);
            S.due("UNRECOGNISED", d.balance(0, 2), losses < 10 ? 7 : 0);
        }
        DeferredDesk two = desk(2, "carry 5;office 1;office 1;deductible 1 6 1 1;deductible 0 7 1 1;" + "loss 0 1 1;".repeat(9));
        S.due("room for one", two.now(4), 10);
        dueLoss(two, 9, 0, 7, 6, 7);
        DeferredDesk both = desk(2, "carry 5;office 1;office 1;deductible 1 6 1 1;deductible 0 7 1 1;" + "loss 0 1 1;".repeat(8));
        S.due("room for two", both.now(4), 10);
        dueLoss(both, 8, 0, 7, 6, 7);
        dueLoss(both, 9, 1, 6, 6, 6);
    }

    private static void dueLeft(DeferredDesk d, int... told) {
        for (int loss = 0; loss < told.length; loss++) {
            S.due("left of " + loss, d.loss(loss, 3), told[loss]);
        }
    }

    private static void incomeAboveNought() {
        S.of("Terms", "above 0: LOSSES that are left, of a last YEAR of NOW or later, are used by it, the earliest last YEAR "
            + "first, of like ones by number.");
        // Closing YEAR 2 with LAST 1, 2, 3 and 39.
        String text = "carry 0;office 1;office 1;loss 0 10 39;loss 0 10 3;loss 0 10 2;loss 0 10 1;loss 1 10 2;profit 0 2 #;";
        int[][] left = {{1, 10, 10, 9}, {10, 10, 10, 0}, {11, 10, 9, 0}, {20, 10, 0, 0}, {21, 9, 0, 0}, {29, 1, 0, 0},
            {30, 0, 0, 0}, {31, 0, 0, 0}, {99999, 0, 0, 0}};
        for (int[] row : left) {
            dueLeft(desk(3, text.replace("#", "" + row[0])), row[1], row[2], row[3], 10, 10);
        }
        dueLeft(desk(3, "carry 0;office 1;loss 0 10 2;"), 10);
        String like = "carry 0;office 1;loss 0 10 5;loss 0 10 5;loss 0 10 5;profit 0 0 #;";
        dueLeft(desk(1, like.replace("#", "9")), 1, 10, 10);
        dueLeft(desk(1, like.replace("#", "10")), 0, 10, 10);
        dueLeft(desk(1, like.replace("#", "11")), 0, 9, 10);
        dueLeft(desk(1, like.replace("#", "29")), 0, 0, 1);
        DeferredDesk d = desk(1, like.replace("#", "5"));
        S.due("SUM stays", d.loss(0, 1), 10);
        S.due("CLOSING behind it", d.closing(0, 0, 2), 25);
    }

    private static void dueClosing(DeferredDesk d, int office, int year, int... told) {
        for (int what = 0; what < told.length; what++) {
            S.due("closing " + office + " " + year + " " + what, d.closing(office, year, what), told[what]);
        }
    }

    private static void closingsKept() {
        S.of("Terms", "Then of each OFFICE its CLOSING is kept: LIABILITY, ASSET, UNRECOGNISED, and of each YEAR above NOW "
            + "TAXED and what is USED.");
        DeferredDesk d = desk("carry 0;office 100;office 200;office 300;taxable 0 100 1 2;taxable 1 100 1 2;profit 2 2 70;"
            + "deductible 2 80 1 2;");
        d.yearEnd();
        dueClosing(d, 0, 0, 10, 0, 0, -10, 0, -10, 0);
        dueClosing(d, 1, 0, 20, 0, 0, -20, 0, -20, 0);
        dueClosing(d, 2, 0, 0, 12, 40, 12, 0, 12, 0);
        d.yearEnd();
        dueClosing(d, 0, 1, 5, 0, 0, 5, 0, 5, 50);
        dueClosing(d, 1, 1, 10, 0, 0, 10, 0, 10, 50);
        dueClosing(d, 2, 1, 0, 12, 0, 0, 0, 0, -40);
        d.enact(0, 2, 900);
        d.arises(1, true, 99999, 3, 3);
        dueClosing(d, 0, 0, 10, 0, 0, -10, 0, -10, 0);
        dueClosing(d, 1, 1, 10, 0, 0, 10, 0, 10, 50);
        DeferredDesk last = desk(39, "carry 0;office 100;taxable 0 100 39 39;");
        dueClosing(last, 0, 38, 10, 0, 0, 0, 0, 0, 0);
    }

    private static void change() {
        S.of("Terms", "CHANGE of NET: this one less that of the CLOSING ahead (less 0 without one);");
        DeferredDesk d = desk("carry 0;office 100;taxable 0 300 1 3;");
        d.yearEnd();
        dueClosing(d, 0, 0, 30, 0, 0, -30, 0, -30, 0);
        d.yearEnd();
        dueClosing(d, 0, 1, 20, 0, 0, 10, 0, 10, 100);
        d.undo();
        d.arises(0, true, 500, 2, 2);
        d.yearEnd();
        dueClosing(d, 0, 1, 70, 0, 0, -40, 0, -40, 100);
        d.yearEnd();
        dueClosing(d, 0, 2, 10, 0, 0, 60, 0, 60, 600);
    }

    private static void byRate() {
        S.of("Terms", "BY RATE: what was kept in the CLOSING ahead of TAXED and USED, by RATES as they are now, each YEAR as "
            + "above, less as it was (0 without one); BY ORIGIN: the rest.");
        DeferredDesk first = desk("carry 0;office 100;taxable 0 1000 1 2;");
        first.enact(0, 0, 200);
        first.yearEnd();
        dueClosing(first, 0, 0, 200, 0, 0, -200, 0, -200, 0);
        // The YEAR that is closed was above NOW in the CLOSING ahead: its RATE counts too.
        first.enact(0, 1, 300);
        first.yearEnd();
        dueClosing(first, 0, 1, 150, 0, 0, 50, -100, 150, 500);
        first.enact(0, 3, 900);
        first.yearEnd();
        dueClosing(first, 0, 2, 0, 0, 0, 150, 0, 150, 500);
        // 999 in each YEAR: by 1 nothing, by 2 it is 1 in each; USED 1000 in 2: 1, then 2.
        DeferredDesk cut = desk(1, "carry 0;office 1;taxable 0 1998 1 2;deductible 0 1000 2 2;profit 0 2 1;");
        dueClosing(cut, 0, 0, 0, 1, 0, 1, 0, 1, 0);
        cut.enact(0, 1, 2);
        cut.yearEnd();
        dueClosing(cut, 0, 1, 1, 2, 0, 0, -1, 1, 999);
        // What has come since then counts by none of it.
        DeferredDesk later = desk(1, "carry 0;office 100;taxable 0 100 2 2;");
        later.arises(0, true, 900, 2, 2);
        later.enact(0, 2, 300);
        later.yearEnd();
        dueClosing(later, 0, 1, 300, 0, 0, -290, -20, -270, 0);
    }

    private static void yearsOneByOne() {
        S.of("Terms", "Then NOW is one more.");
        DeferredDesk d = desk("carry 0;office 1;");
        for (int year = 1; year <= 39; year++) {
            S.due("yearEnd", d.yearEnd(), year);
        }
        S.due("NOW", d.now(0), 39);
    }

    private static void newText() {
        S.of("Terms", "A new TEXT: YEAR 0, no CLOSINGS, nothing can be undone.");
        String text = "carry 2;office 100;taxable 0 300 1 3;loss 0 5 9;";
        String former = "carry 9;office 7;office 8;office 9;rate 0 1 5;profit 0 0 3;profit 0 1 6;profit 2 39 6;"
            + "deductible 0 50 1 2;loss 2 9 9;";
        for (int years : new int[] {0, 1, 12, 39}) {
            DeferredDesk d = desk(years, former);
            d.enact(0, 39, 900);
            dueNewText(d, text);
            S.same("all else", Shown.of(d), Shown.of(desk(text)));
            d.yearEnd();
            d.yearEnd();
            dueClosing(d, 0, 0, 30, 0, 0, -30, 0, -30, 0);
            // What stood two TEXTS ahead is gone, too.
            DeferredDesk third = desk(years, former);
            dueNewText(third, former);
            dueNewText(third, text);
            S.same("all else of a third one", Shown.of(third), Shown.of(desk(text)));
        }
        S.of("Terms", "A refused call, one that throws changes nothing.");
        DeferredDesk d = Sentences.richDesk();
        refuse(d);
        S.same("refused calls", Shown.of(d), Shown.of(Sentences.richDesk()));
        DeferredDesk fresh = new DeferredDesk();
        refuse(fresh);
        S.same("refused calls of a new object", Shown.of(fresh), Shown.of(new DeferredDesk()));
    }

    private static void dueNewText(DeferredDesk d, String text) {
        S.due("a new TEXT is right", Checks.read(d, text) > 0, true);
        S.due("YEAR", d.now(0), 0);
        S.due("to be undone", d.now(6), 0);
        S.due("undo", d.undo(), -1);
        for (int office = 0; office < 3; office++) {
            S.due("no CLOSING of 0", d.closing(office, 0, 0), NO_SUM);
        }
    }

    /** Calls that every desk refuses. */
    private static void refuse(DeferredDesk d) {
        d.end(-1);
        d.now(8);
        d.rate(3, 0);
        d.covered(0, 40, 0);
        d.balance(3, 0);
        d.closing(0, 39, 0);
        d.would(0, 40, 1);
        d.needs(0, 40);
        d.enact(0, 39, 901);
        d.expect(0, 39, 100000);
        d.arises(0, false, 1, 39, 40);
        d.settle(30);
        d.loses(0, 100000, 39);
        S.due("item throws", Sentences.isThrowing(d, x -> x.item(0, 140)), true);
        S.due("loss throws", Sentences.isThrowing(d, x -> x.loss(10, 0)), true);
    }
}
