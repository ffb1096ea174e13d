import java.util.function.Supplier;

/** The bounds of promises 1 and 6 to 14: a new object, and the calls that ask. */
public final class AskBoundsTest {
    private static final int NO_SUM = -100000000;
    private static final int MAX = Integer.MAX_VALUE;
    private static final int MIN = Integer.MIN_VALUE;
    private static final Supplier<DeferredDesk> RICH = Sentences::richDesk;
    private static final Sentences S = new Sentences();

    public static void main(String[] args) {
        newObject();
        now();
        item();
        loss();
        rate();
        covered();
        lossesBehind();
        balance();
        balanceOfAll();
        closing();
        would();
        needs();
        needsAtItsBounds();
        S.finish();
    }

    private static DeferredDesk desk(String text) {
        return Checks.desk(text);
    }

    private static DeferredDesk desk(int years, String text) {
        return Sentences.desk(years, text);
    }

    private static void newObject() {
        S.of("Promise 1: A new object", "N 0, one OFFICE of RATE 0, nothing else; an empty tape.");
        DeferredDesk d = new DeferredDesk();
        int[] told = {0, 0, 1, 0, 0, 0, 0, 0};
        for (int what = 0; what < told.length; what++) {
            S.due("now " + what, d.now(what), told[what]);
        }
        for (int year = 0; year <= 39; year++) {
            S.due("rate in " + year, d.rate(0, year), 0);
            S.due("profit in " + year, d.expect(0, year, 0), 0);
        }
        S.due("no second OFFICE", d.rate(1, 0), -1);
        S.due("NONE", DeferredDesk.NONE, -1);
        S.same("as a TEXT of that", Shown.of(new DeferredDesk()), Shown.of(desk("carry 0;office 0;")));
        S.throwing("no ITEM", DeferredDesk::new, x -> x.item(0, 0));
        S.throwing("no LOSS", DeferredDesk::new, x -> x.loss(0, 0));
        // N 0: what is left of a YEAR lapses with it.
        DeferredDesk acts = new DeferredDesk();
        S.due("the first ITEM", acts.arises(0, false, 9, 1, 1), 0);
        S.due("the first LOSS", acts.loses(0, 9, 1), 0);
        S.due("the first year", acts.yearEnd(), 1);
        S.due("the second year", acts.yearEnd(), 2);
        S.due("no LOSS of INCOME", acts.now(4), 1);
        S.due("INCOME", acts.closing(0, 1, 6), -9);
    }

    private static void now() {
        S.of("Promise 6: now", "0 NOW, 1 N of 'carry', 2 OFFICES, 3 ITEMS, 4 LOSSES, 5 ITEMS of which nothing is OPEN, 6 "
            + "what can be undone, 7 bytes of the tape.");
        DeferredDesk d = desk(3, "carry 20;office 1;office 1;office 1;taxable 0 9 1 2;taxable 0 9 1 3;deductible 0 9 3 3;"
            + "deductible 0 9 3 4;loss 0 1 1;");
        d.feed(1, 1, 1, 1, 1);
        int[] told = {3, 20, 3, 4, 1, 3, 3, 20};
        for (int what = 0; what < told.length; what++) {
            S.due("now " + what, d.now(what), told[what]);
        }
        // Its PART of NOW is not OPEN, a PART of 39 is up to NOW 38.
        S.due("OPEN ahead of LAST", desk(2, "carry 0;office 1;taxable 0 9 1 3;").now(5), 0);
        S.due("nothing is OPEN in LAST", desk(3, "carry 0;office 1;taxable 0 9 1 3;").now(5), 1);
        S.due("OPEN in 38", desk(38, "carry 0;office 1;taxable 0 9 39 39;").now(5), 0);
        S.due("nothing is OPEN in 39", desk(39, "carry 0;office 1;taxable 0 9 39 39;").now(5), 1);
        S.of("Promise 6: now", "NONE for another what.");
        for (int what : new int[] {-1, 8, 9, -2, MAX, MIN}) {
            S.changesNothing("now " + what, -1, RICH, x -> x.now(what));
        }
    }

    private static void item() {
        S.of("Promise 7: item", "Of an ITEM 0 its OFFICE, 1 1 if TAXABLE, 2 SUM, 3 FIRST, 4 LAST, 5 OPEN, 100 and t: PART in YEAR t.");
        DeferredDesk d = desk("carry 0;office 1;office 1;office 1;deductible 2 99999 39 39;taxable 0 1 1 39;");
        int[] first = {2, 0, 99999, 39, 39, 99999};
        int[] second = {0, 1, 1, 1, 39, 1};
        for (int what = 0; what < first.length; what++) {
            S.due("item 0 " + what, d.item(0, what), first[what]);
            S.due("item 1 " + what, d.item(1, what), second[what]);
        }
        S.due("YEAR 0", d.item(0, 100), 0);
        S.due("YEAR 38", d.item(0, 138), 0);
        S.due("YEAR 39", d.item(0, 139), 99999);
        S.due("the 30th ITEM", thirtyItems().item(29, 2), 30);
        S.of("Promise 7: item", "NoSuchElementException: no such one, another what.");
        for (int item : new int[] {-1, 4, 5, 29, 30, MAX, MIN}) {
            S.throwing("item " + item, RICH, x -> x.item(item, 0));
        }
        for (int what : new int[] {-1, 6, 7, 50, 99, 140, 141, MAX, MIN}) {
            S.throwing("what " + what, RICH, x -> x.item(0, what));
        }
        S.due("item 3", Sentences.richDesk().item(3, 2), 77);
        S.throwing("the 31st ITEM", AskBoundsTest::thirtyItems, x -> x.item(30, 0));
        DeferredDesk undone = thirtyItems();
        undone.undo();
        S.due("of one that is undone", Sentences.isThrowing(undone, x -> x.item(29, 0)), true);
        S.due("of the one ahead", undone.item(28, 2), 29);
    }

    private static DeferredDesk thirtyItems() {
        DeferredDesk d = new DeferredDesk();
        for (int k = 1; k <= 30; k++) {
            d.arises(0, true, k, 1, 1);
        }
        return d;
    }

    private static void loss() {
        S.of("Promise 8: loss", "Of a LOSS 0 its OFFICE, 1 SUM, 2 LAST, 3 what is left.");
        DeferredDesk d = desk(1, "carry 0;office 1;office 1;office 1;profit 2 0 99998;loss 2 99999 39;loss 0 1 1;");
        int[] first = {2, 99999, 39, 1};
        int[] second = {0, 1, 1, 1};
        for (int what = 0; what < first.length; what++) {
            S.due("loss 0 " + what, d.loss(0, what), first[what]);
            S.due("loss 1 " + what, d.loss(1, what), second[what]);
        }
        Supplier<DeferredDesk> ten = () -> desk("carry 0;office 1;" + "loss 0 5 9;".repeat(10));
        S.due("the tenth", ten.get().loss(9, 1), 5);
        S.of("Promise 8: loss", "NoSuchElementException: no such one, another what.");
        for (int loss : new int[] {-1, 3, 4, 9, 10, MAX, MIN}) {
            S.throwing("loss " + loss, RICH, x -> x.loss(loss, 0));
        }
        for (int what : new int[] {-1, 4, 5, 100, MAX, MIN}) {
            S.throwing("what " + what, RICH, x -> x.loss(0, what));
        }
        S.due("loss 2", Sentences.richDesk().loss(2, 1), 6);
        S.throwing("the eleventh", ten, x -> x.loss(10, 0));
    }

    private static void rate() {
        S.of("Promise 9: rate", "RATE of an OFFICE in a YEAR.");
        DeferredDesk d = desk(5, "carry 0;office 1;office 2;office 3;rate 2 39 900;rate 0 1 7;");
        S.due("a closed YEAR", d.rate(0, 0), 1);
        S.due("a closed YEAR", d.rate(0, 4), 7);
        S.due("the last OFFICE in 38", d.rate(2, 38), 3);
        S.due("the last OFFICE in 39", d.rate(2, 39), 900);
        S.of("Promise 9: rate", "NONE: no such ones.");
        for (int year : new int[] {-1, 40, 41, MAX, MIN}) {
            S.changesNothing("year " + year, -1, RICH, x -> x.rate(0, year));
        }
        for (int office : new int[] {-1, 2, 3, MAX, MIN}) {
            S.changesNothing("office " + office, -1, RICH, x -> x.rate(office, 0));
        }
        S.due("no fourth OFFICE", d.rate(3, 0), -1);
    }

    private static void covered() {
        S.of("Promise 10: covered", "Of an OFFICE and a YEAR above NOW: 0 TAXED, 1 COVER, 2 DEDUCTED, 3 USED of DEDUCTED, 4 "
            + "USED of losses, 5 losses that are there behind it");
        DeferredDesk d = desk(2, "carry 1;office 1;office 1;taxable 1 9 3 3;profit 1 3 100;deductible 1 60 3 3;loss 1 70 39;"
            + "taxable 1 5 39 39;");
        int[] told = {9, 109, 60, 60, 49, 21};
        for (int what = 0; what < told.length; what++) {
            S.due("NOW and 1, " + what, d.covered(1, 3, what), told[what]);
        }
        int[] last = {5, 5, 0, 0, 5, 0};
        for (int what = 0; what < last.length; what++) {
            S.due("39, " + what, d.covered(1, 39, what), last[what]);
        }
        S.of("Promise 10: covered", "NONE: no such ones, another what.");
        // NOW of it is 2.
        for (int year : new int[] {-1, 0, 1, 2, 40, 41, MAX, MIN}) {
            S.changesNothing("year " + year, -1, RICH, x -> x.covered(0, year, 1));
        }
        for (int office : new int[] {-1, -2, 2, 3, MAX, MIN}) {
            S.changesNothing("office " + office, -1, RICH, x -> x.covered(office, 3, 1));
        }
        for (int what : new int[] {-1, 6, 7, MAX, MIN}) {
            S.changesNothing("what " + what, -1, RICH, x -> x.covered(0, 3, what));
        }
        S.changesNothing("year 39, NOW is 39", -1, () -> desk(39, "carry 0;office 1;"), x -> x.covered(0, 39, 0));
        S.changesNothing("year 39, NOW is 38", 0, () -> desk(38, "carry 0;office 1;"), x -> x.covered(0, 39, 0));
    }

    private static void lossesBehind() {
        S.of("Promise 10: covered", "(of a last YEAR above it)");
        DeferredDesk d = desk("carry 2;office 1;loss 0 1 4;loss 0 10 5;loss 0 100 6;deductible 0 1000 3 3;");
        int[] told = {111, 111, 1111, 1110, 100, 0, 0};
        for (int t = 1; t <= told.length; t++) {
            S.due("behind " + t, d.covered(0, t, 5), told[t - 1]);
        }
        // A further loss of the last YEARS lapses above 39: the document tells no bound of it there.
        DeferredDesk late = desk("carry 2;office 1;deductible 0 5 37 37;deductible 0 6 38 38;deductible 0 7 39 39;loss 0 100 39;");
        S.due("behind 38", late.covered(0, 38, 5), 111);
        S.due("behind 39", late.covered(0, 39, 5), 13);
        DeferredDesk none = desk("carry 0;office 1;deductible 0 7 39 39;loss 0 100 39;");
        S.due("behind 38, N is 0", none.covered(0, 38, 5), 100);
        S.due("behind 39, N is 0", none.covered(0, 39, 5), 0);
    }

    private static void balance() {
        S.of("Promise 11: balance", "0 LIABILITY, 1 ASSET, 2 UNRECOGNISED, 3 NET of an OFFICE now;");
        DeferredDesk d = desk(1, "carry 0;office 1;office 1;office 100;taxable 2 100 1 2;deductible 2 300 2 2;loss 2 7 1;");
        int[] told = {5, 5, 250, 0};
        for (int what = 0; what < told.length; what++) {
            S.due("balance 2 " + what, d.balance(2, what), told[what]);
        }
        S.of("Promise 11: balance", "NONE - 99999999: no such ones, another what.");
        for (int office : new int[] {-2, 2, 3, MAX, MIN}) {
            for (int what : new int[] {0, 3, 4}) {
                S.changesNothing("office " + office + ", " + what, NO_SUM, RICH, x -> x.balance(office, what));
            }
        }
        for (int what : new int[] {-1, 4, 5, MAX, MIN}) {
            S.changesNothing("what " + what, NO_SUM, RICH, x -> x.balance(0, what));
        }
        for (int what : new int[] {-1, 5, 6, MAX, MIN}) {
            S.changesNothing("what " + what + " of all", NO_SUM, RICH, x -> x.balance(-1, what));
        }
        S.changesNothing("office 1 of one", NO_SUM, DeferredDesk::new, x -> x.balance(1, 0));
    }

    private static void dueOfAll(DeferredDesk d, int... told) {
        for (int what = 0; what < told.length; what++) {
            S.due("balance of all " + what, d.balance(-1, what), told[what]);
        }
    }

    private static void balanceOfAll() {
        S.of("Promise 11: balance", "of office NONE 0 to 2: all OFFICES together, 3: of those of which NET is above 0, 4: "
            + "less of those of which it is below 0 (above 0).");
        String offices = "carry 0;office 100;office 200;office 300;";
        dueOfAll(new DeferredDesk(), 0, 0, 0, 0, 0);
        dueOfAll(desk(offices + "taxable 0 10 1 1;"), 1, 0, 0, 0, 1);
        dueOfAll(desk(offices + "deductible 2 10 1 1;profit 2 1 10;"), 0, 3, 0, 3, 0);
        // NET -1, 0 and 3: the one of 0 is in neither.
        dueOfAll(desk(offices + "taxable 0 10 1 1;taxable 1 10 1 1;deductible 1 10 1 1;deductible 2 10 1 1;profit 2 1 10;"
            + "loss 1 8 1;"), 3, 5, 8, 3, 1);
        dueOfAll(desk(offices + "taxable 0 10 1 1;taxable 1 10 1 1;taxable 2 10 1 1;"), 6, 0, 0, 0, 6);
        dueOfAll(desk(offices + "profit 0 1 10;profit 1 1 10;profit 2 1 10;loss 0 10 1;loss 1 10 1;loss 2 11 1;"), 0, 6, 1, 6, 0);
    }

    private static void closing() {
        S.of("Promise 12: closing", "Of the CLOSING of a YEAR of an OFFICE 0 LIABILITY, 1 ASSET, 2 UNRECOGNISED, 3 CHANGE, 4 "
            + "BY RATE, 5 BY ORIGIN, 6 INCOME.");
        DeferredDesk d = desk("carry 0;office 1;office 100;profit 1 0 9;taxable 1 100 1 1;deductible 1 70 1 1;loss 1 50 5;");
        d.yearEnd();
        int[] told = {10, 10, 11, 0, 0, 0, 9};
        for (int what = 0; what < told.length; what++) {
            S.due("closing 1 0 " + what, d.closing(1, 0, what), told[what]);
        }
        d.enact(1, 1, 300);
        d.yearEnd();
        int[] next = {0, 0, 11, 0, 0, 0, 30};
        for (int what = 0; what < next.length; what++) {
            S.due("closing 1 1 " + what, d.closing(1, 1, what), next[what]);
        }
        S.of("Promise 12: closing", "NONE - 99999999: no such ones, another what.");
        // NOW of it is 2.
        for (int year : new int[] {-1, -2, 2, 3, 38, 39, 40, MAX, MIN}) {
            S.changesNothing("year " + year, NO_SUM, RICH, x -> x.closing(0, year, 0));
        }
        for (int office : new int[] {-1, 2, 3, MAX, MIN}) {
            S.changesNothing("office " + office, NO_SUM, RICH, x -> x.closing(office, 0, 0));
        }
        for (int what : new int[] {-1, 7, 8, MAX, MIN}) {
            S.changesNothing("what " + what, NO_SUM, RICH, x -> x.closing(0, 0, what));
        }
        DeferredDesk all = desk(39, "carry 0;office 1;");
        S.due("of 38", all.closing(0, 38, 0), 0);
        S.due("of 39", all.closing(0, 39, 0), NO_SUM);
        all.undo();
        S.due("of one that is undone", all.closing(0, 38, 0), NO_SUM);
        S.due("of the one ahead", all.closing(0, 37, 0), 0);
    }

    private static void would() {
        S.of("Promise 13: would", "NET of an OFFICE, were its RATE so from a YEAR on.");
        // TAXED 1000 in each of 3, 4, 39; NOW is 2.
        Supplier<DeferredDesk> made = () -> desk(2, "carry 0;office 5;office 9;rate 0 4 100;rate 0 39 200;taxable 0 2000 3 4;"
            + "taxable 0 1000 39 39;");
        int[][] told = {{2, 0, 0}, {2, 900, -2700}, {3, 1, -3}, {4, 1, -7}, {5, 1, -106}, {38, 1, -106}, {39, 0, -105},
            {39, 1, -106}, {39, 900, -1005}};
        for (int[] row : told) {
            S.changesNothing("would " + row[0] + " " + row[1], row[2], made, x -> x.would(0, row[0], row[1]));
            DeferredDesk enacted = made.get();
            enacted.enact(0, row[0], row[1]);
            S.due("enact " + row[0] + " " + row[1], enacted.balance(0, 3), row[2]);
        }
        S.changesNothing("another OFFICE", 0, made, x -> x.would(1, 2, 900));
        S.changesNothing("NOW is 39", 0, () -> desk(39, "carry 0;office 1;taxable 0 1000 39 39;"), x -> x.would(0, 39, 900));
        S.of("Promise 13: would", "NONE - 99999999: as for enact().");
        for (int year : new int[] {-1, 0, 1, 40, 41, MAX, MIN}) {
            S.changesNothing("year " + year, NO_SUM, RICH, x -> x.would(0, year, 1));
        }
        for (int office : new int[] {-1, 2, 3, MAX, MIN}) {
            S.changesNothing("office " + office, NO_SUM, RICH, x -> x.would(office, 5, 1));
        }
        for (int rate : new int[] {-1, 901, 902, MAX, MIN}) {
            S.changesNothing("rate " + rate, NO_SUM, RICH, x -> x.would(0, 5, rate));
        }
    }

    private static void needs() {
        S.of("Promise 14: needs", "The least PROFIT more (0 to 99999) in a YEAR above NOW by which UNRECOGNISED of an OFFICE is 0;");
        S.changesNothing("nothing to be used", 0, DeferredDesk::new, x -> x.needs(0, 1));
        S.changesNothing("nothing to be used in 39", 0, DeferredDesk::new, x -> x.needs(0, 39));
        for (int profit : new int[] {0, 1, 9, 10, 11}) {
            Supplier<DeferredDesk> made = () -> {
                DeferredDesk d = desk(1, "carry 0;office 1;deductible 0 10 2 2;");
                d.expect(0, 2, profit);
                return d;
            };
            S.changesNothing("behind " + profit, Math.max(0, 10 - profit), made, x -> x.needs(0, 2));
        }
        for (int sum : new int[] {1, 2, 50000, 65535, 65536, 99998, 99999}) {
            S.changesNothing("needs " + sum, sum, () -> desk("carry 0;office 1;loss 0 " + sum + " 39;"), x -> x.needs(0, 39));
        }
        // PROFIT more comes on top of what is expected: 99999 and 99999 together.
        Supplier<DeferredDesk> twice = () -> desk("carry 0;office 1;loss 0 99999 2;deductible 0 99999 2 2;profit 0 2 99999;");
        S.changesNothing("above 99999 in all", 99999, twice, x -> x.needs(0, 2));

        S.of("Promise 14: needs", "-2: by none.");
        Supplier<DeferredDesk> more = () -> desk("carry 0;office 1;loss 0 99999 2;deductible 0 1 2 2;");
        S.changesNothing("100000", -2, more, x -> x.needs(0, 2));
        Supplier<DeferredDesk> loss = () -> desk("carry 0;office 1;loss 0 10 5;");
        S.changesNothing("in its LAST", 10, loss, x -> x.needs(0, 5));
        S.changesNothing("behind its LAST", -2, loss, x -> x.needs(0, 6));
        Supplier<DeferredDesk> lapse = () -> desk("carry 3;office 1;deductible 0 10 5 5;");
        S.changesNothing("ahead of it", -2, lapse, x -> x.needs(0, 4));
        S.changesNothing("in its YEAR", 10, lapse, x -> x.needs(0, 5));
        S.changesNothing("in its lapse", 10, lapse, x -> x.needs(0, 8));
        S.changesNothing("behind its lapse", -2, lapse, x -> x.needs(0, 9));
    }

    private static void needsAtItsBounds() {
        S.of("Promise 14: needs", "NONE: no such ones.");
        // NOW of it is 2.
        for (int year : new int[] {-1, 0, 1, 2, 40, 41, MAX, MIN}) {
            S.changesNothing("year " + year, -1, RICH, x -> x.needs(0, year));
        }
        for (int office : new int[] {-1, 2, 3, MAX, MIN}) {
            S.changesNothing("office " + office, -1, RICH, x -> x.needs(office, 3));
        }
        S.changesNothing("year 39, NOW is 38", 0, () -> desk(38, "carry 0;office 1;"), x -> x.needs(0, 39));
        S.changesNothing("year 39, NOW is 39", -1, () -> desk(39, "carry 0;office 1;"), x -> x.needs(0, 39));
    }
}
