/** The promises one by one, with answers worked out by hand. */
public final class PromiseTest {
    private static final int NO_SUM = -100000000;
    private static final String PLAIN = "carry 0;office 100;";
    private static final Checks CHECKS = new Checks();

    public static void main(String[] args) {
        newObject();
        feed();
        end();
        text();
        textAtItsEdges();
        textOfTooManyBytes();
        textBehindAnother();
        fault();
        now();
        item();
        loss();
        rate();
        covered();
        coveredInOrder();
        balance();
        closing();
        closingOfLosses();
        would();
        needs();
        enact();
        expect();
        arises();
        settle();
        loses();
        yearEnd();
        undo();
        refusedCallsChangeNothing();
        CHECKS.finish();
    }

    private static void due(String call, long got, long want) {
        CHECKS.due(call, got, want);
    }

    private static void newObject() {
        DeferredDesk d = new DeferredDesk();
        due("1 NONE", DeferredDesk.NONE, -1);
        int[] told = {0, 0, 1, 0, 0, 0, 0, 0};
        for (int what = 0; what < told.length; what++) {
            due("1 now " + what, d.now(what), told[what]);
        }
        due("1 rate", d.rate(0, 0), 0);
        due("1 rate 39", d.rate(0, 39), 0);
        due("1 no office 1", d.rate(1, 0), -1);
        due("1 fault", d.fault(), 0);
        due("1 undo", d.undo(), -1);
        due("1 covered", d.covered(0, 1, 1), 0);
        due("1 closing", d.closing(0, 0, 0), NO_SUM);
    }

    private static void feed() {
        DeferredDesk d = new DeferredDesk();
        for (int k = 1; k <= 32; k++) {
            due("2 feed " + k, d.feed(0, -1, Integer.MIN_VALUE, Integer.MAX_VALUE, 5), 20 * k);
        }
        due("2 feed above 640", d.feed(0, 0, 0, 0, 0), -1);
        due("2 none came", d.now(7), 640);
        d.end(621);
        due("2 feed to 641", d.feed(0, 0, 0, 0, 0), -1);
        due("2 none came", d.now(7), 621);
        d.end(620);
        due("2 feed to 640", d.feed(0, 0, 0, 0, 0), 640);
        d.end(0);
        // 'carr' 'y 7;' 'offi' 'ce 5' ';   ': the highest byte of a number first
        due("2 bytes", d.feed(0x63617272, 0x7920373b, 0x6f666669, 0x63652035, 0x3b202020), 20);
        due("2 read", d.text(), 2);
        due("2 carry", d.now(1), 7);
        due("2 rate", d.rate(0, 0), 5);
    }

    private static void end() {
        DeferredDesk d = new DeferredDesk();
        due("3 end 0", d.end(0) ? 1 : 0, 1);
        due("3 end 1 of none", d.end(1) ? 1 : 0, 0);
        d.feed(1, 2, 3, 4, 5);
        due("3 end 21", d.end(21) ? 1 : 0, 0);
        due("3 end -1", d.end(-1) ? 1 : 0, 0);
        due("3 end min", d.end(Integer.MIN_VALUE) ? 1 : 0, 0);
        due("3 stays", d.now(7), 20);
        due("3 end 20", d.end(20) ? 1 : 0, 1);
        due("3 end 7", d.end(7) ? 1 : 0, 1);
        due("3 has 7", d.now(7), 7);
        due("3 end 8", d.end(8) ? 1 : 0, 0);
        due("3 feed behind it", d.feed(1, 2, 3, 4, 5), 27);
    }

    private static void faulty(String text, int kind, int place) {
        DeferredDesk d = Checks.desk("carry 3;office 7;loss 0 5 9;");
        d.loses(0, 6, 8);
        due("4 fault of " + text, Checks.read(d, text), -1 - place);
        due("5 kind of " + text, d.fault(), kind);
        due("4 the tape is empty", d.now(7), 0);
        due("4 carry stays", d.now(1), 3);
        due("4 rate stays", d.rate(0, 0), 7);
        due("4 losses stay", d.now(4), 2);
        due("4 undo stays", d.undo(), 0);
    }

    private static void right(String text, int lines) {
        DeferredDesk d = new DeferredDesk();
        due("4 lines of " + text, Checks.read(d, text), lines);
        due("5 no fault in " + text, d.fault(), 0);
        due("4 the tape is empty", d.now(7), 0);
    }

    private static void text() {
        right("carry 0;office 0;", 2);
        right("\n carry\n20\n;office 900;office 00000;office 1;loss 0 1 1;rate 2 39 900;profit 1 0 99999; \n", 7);
        right("carry 00020;office 00900;", 2);
        faulty("", 1, 0);
        faulty("carry0;office 0;", 1, 0);
        faulty("carry 0;office0;", 1, 8);
        faulty("  \n", 1, 3);
        faulty("carry", 1, 5);
        faulty("carry 1", 1, 7);
        faulty("carry 1; ", 1, 9);
        faulty("carry 1;office 5", 1, 16);
        faulty("office 1;", 1, 0);
        faulty("carry;office 1;", 1, 5);
        faulty("carry carry;", 1, 6);
        faulty("carry 1 2;", 1, 8);
        faulty("carry 1;;", 1, 8);
        faulty("carry 1;carry 1;", 1, 8);
        faulty("carry 1;rate 0 0 0;", 1, 8);
        faulty("carry 1;office 1;carry 1;", 1, 17);
        faulty("carry 1;office 1;rate 0 0 0;office 1;", 1, 28);
        faulty("carry 1;office 1;office 1;office 1;rate 0 0 0;office 1;", 1, 46);
        faulty("carry 1;office 1;offices 1;", 1, 17);
        faulty("carry 1;office 1;taxabl 0 1 1 1;", 1, 17);
        faulty("carry 1;office 1;loss 0 1 1 1;", 1, 28);
        faulty("carry 1;office 1;taxable 0 1 1;", 1, 30);
        faulty("carry 1;office 1a;", 1, 15);
        faulty("carry 1;office a1;", 1, 15);
        faulty("carry 1;office 1;lossz 0 1 1;", 1, 17);
        faulty("carry 1;office 1;loss$0 1 1;", 1, 21);
        faulty("carry 000001;", 1, 6);
        faulty("carry 100000;", 1, 6);
        faulty("carry -1;", 1, 6);
        faulty("Carry 1;", 1, 0);
        faulty("carry\t1;", 1, 5);
        faulty("carry 1;office 1;" + (char) 233, 1, 17);
        faulty("carry 1;office 1;" + (char) 0, 1, 17);
        faulty("carry 1;office 1;" + (char) 13, 1, 17);
    }

    private static void textAtItsEdges() {
        faulty("carry 21;", 2, 6);
        faulty("carry 1;office 901;", 2, 15);
        faulty("carry 1;office 1;rate 1 0 0;", 2, 22);
        faulty("carry 1;office 1;rate 0 40 0;", 2, 24);
        faulty("carry 1;office 1;rate 0 39 901;", 2, 27);
        faulty("carry 1;office 1;profit 0 40 1;", 2, 26);
        faulty("carry 1;office 1;profit 0 0 0;", 2, 28);
        faulty("carry 1;office 1;office 2;profit 2 0 1;", 2, 33);
        faulty("carry 1;office 1;taxable 0 0 1 1;", 2, 27);
        faulty("carry 1;office 1;taxable 0 1 0 1;", 2, 29);
        faulty("carry 1;office 1;taxable 0 1 40 40;", 2, 29);
        faulty("carry 1;office 1;deductible 0 1 5 4;", 2, 34);
        faulty("carry 1;office 1;deductible 0 1 5 40;", 2, 34);
        faulty("carry 1;office 1;loss 0 0 5;", 2, 24);
        faulty("carry 1;office 1;loss 0 5 0;", 2, 26);
        faulty("carry 1;office 1;loss 0 5 40;", 2, 26);
        right("carry 1;office 1;deductible 0 99999 39 39;taxable 0 1 1 39;loss 0 99999 39;", 5);
        faulty("carry 1;office 1;office 1;office 1;office 1;", 3, 35);
        faulty("carry 1;office 1;office 1;office 1;office", 3, 35);
        String items = "carry 1;office 1;" + "taxable 0 5 1 1;deductible 0 5 1 1;".repeat(8);
        right(items, 18);
        right(items + "loss 0 1 1;", 19);
        faulty(items + "taxable 9", 3, items.length());
        faulty(items + "deductible 0 5 1 1;", 3, items.length());
        String losses = "carry 1;office 1;" + "loss 0 5 1;".repeat(10);
        right(losses, 12);
        faulty(losses + "loss 0 5 1;", 3, losses.length());
    }

    private static String padded(String text, int size) {
        return text + " ".repeat(size - text.length());
    }

    private static void textOfTooManyBytes() {
        right(padded(PLAIN, 600), 2);
        faulty(padded(PLAIN, 601), 1, 600);
        faulty(padded(PLAIN, 640), 1, 600);
        faulty(padded(PLAIN, 603) + "$", 1, 600);
        faulty(padded(PLAIN, 599) + "$  ", 1, 599);
        faulty(padded(PLAIN, 599) + "$", 1, 599);
        faulty(padded(PLAIN, 597) + "loss", 1, 600);
        faulty(padded(PLAIN, 597) + "lost", 1, 597);
        faulty(padded(PLAIN, 599) + "a".repeat(41), 1, 599);
        faulty(padded(PLAIN, 593) + "loss 0 123456", 1, 600);
        faulty(padded(PLAIN, 592) + "loss 0 123456", 1, 599);
        faulty(padded(PLAIN, 592) + "loss 0 00000", 2, 599);
        faulty(padded(PLAIN, 590) + "loss 0 1 39;", 1, 600);
        right(padded(PLAIN, 588) + "loss 0 1 39;", 3);
        faulty("carry 1;office" + " ".repeat(620), 1, 600);
        faulty("carry 1;office" + " ".repeat(500), 1, 514);
    }

    /** Nothing of what stood ahead is left, whichever text was read two ahead. */
    private static void textBehindAnother() {
        String rich = "carry 5;office 100;office 200;rate 0 1 300;profit 0 0 8;profit 0 1 9;taxable 0 7 1 1;loss 0 9 9;";
        DeferredDesk d = Checks.desk(rich);
        for (int k = 0; k < 3; k++) {
            d.expect(0, 2, 50);
            d.yearEnd();
            Checks.read(d, PLAIN);
            int[] told = {0, 0, 1, 0, 0, 0, 0, 0};
            for (int what = 0; what < told.length; what++) {
                due("4 now " + what + " of a new text", d.now(what), told[what]);
            }
            due("4 rate", d.rate(0, 39), 100);
            due("4 profit of 0", d.expect(0, 0, 1), 0);
            due("4 profit of 1", d.covered(0, 1, 1), 0);
            due("4 profit of 2", d.covered(0, 2, 1), 0);
            due("4 rich again", Checks.read(d, rich), 8);
            due("4 profit of 2", d.covered(0, 2, 1), 0);
            due("4 items", d.now(3), 1);
            due("4 losses", d.now(4), 1);
        }
        DeferredDesk u = Checks.desk(rich);
        u.yearEnd();
        u.undo();
        due("21 carry", u.now(1), 5);
        due("21 offices", u.now(2), 2);
    }

    private static void fault() {
        DeferredDesk d = new DeferredDesk();
        due("5 ahead of any", d.fault(), 0);
        Checks.read(d, "carry 99;");
        due("5 of the latest", d.fault(), 2);
        d.enact(0, 0, 5);
        d.feed(1, 2, 3, 4, 5);
        due("5 stays", d.fault(), 2);
        Checks.read(d, PLAIN);
        due("5 without one", d.fault(), 0);
    }

    private static void now() {
        DeferredDesk d = Checks.desk("carry 4;office 1;office 2;taxable 0 9 1 1;taxable 1 9 1 2;loss 0 1 1;");
        int[] told = {0, 4, 2, 2, 1, 0, 0, 0};
        for (int what = 0; what < told.length; what++) {
            due("6 now " + what, d.now(what), told[what]);
        }
        due("6 now 8", d.now(8), -1);
        due("6 now -1", d.now(-1), -1);
        due("6 now max", d.now(Integer.MAX_VALUE), -1);
        d.yearEnd();
        due("6 nothing open of one", d.now(5), 1);
        d.yearEnd();
        due("6 nothing open of two", d.now(5), 2);
        due("6 year", d.now(0), 2);
        due("6 can be undone", d.now(6), 2);
        d.feed(1, 1, 1, 1, 1);
        due("6 tape", d.now(7), 20);
    }

    private static void item() {
        DeferredDesk d = Checks.desk("carry 0;office 1;office 2;taxable 1 100 2 4;deductible 0 5 1 39;");
        int[] first = {1, 1, 100, 2, 4, 100};
        int[] second = {0, 0, 5, 1, 39, 5};
        for (int what = 0; what < 6; what++) {
            due("7 item 0 " + what, d.item(0, what), first[what]);
            due("7 item 1 " + what, d.item(1, what), second[what]);
        }
        int[] parts = {0, 0, 33, 33, 34, 0};
        for (int t = 0; t < parts.length; t++) {
            due("7 part " + t, d.item(0, 100 + t), parts[t]);
        }
        // 5 * 7 / 39 is 0, 5 * 8 / 39 is 1
        due("7 part 7", d.item(1, 107), 0);
        due("7 part 8", d.item(1, 108), 1);
        due("7 part 39", d.item(1, 139), 1);
        for (int what : new int[] {-1, 6, 99, 140, Integer.MAX_VALUE, Integer.MIN_VALUE}) {
            CHECKS.dueThrow("7 item 0 " + what, d, true, 0, what);
        }
        for (int item : new int[] {-1, 2, Integer.MAX_VALUE, Integer.MIN_VALUE}) {
            CHECKS.dueThrow("7 item " + item, d, true, item, 0);
        }
        d.yearEnd();
        d.yearEnd();
        d.yearEnd();
        due("7 open behind 3", d.item(0, 5), 34);
        due("7 a part that is gone", d.item(0, 102), 33);
    }

    private static void loss() {
        DeferredDesk d = Checks.desk("carry 0;office 1;office 2;profit 1 0 30;loss 1 100 4;");
        int[] told = {1, 100, 4, 100};
        for (int what = 0; what < told.length; what++) {
            due("8 loss " + what, d.loss(0, what), told[what]);
        }
        CHECKS.dueThrow("8 what 4", d, false, 0, 4);
        CHECKS.dueThrow("8 what -1", d, false, 0, -1);
        CHECKS.dueThrow("8 loss 1", d, false, 1, 0);
        CHECKS.dueThrow("8 loss -1", d, false, -1, 0);
        CHECKS.dueThrow("8 loss max", d, false, Integer.MAX_VALUE, 0);
        d.yearEnd();
        due("8 left", d.loss(0, 3), 70);
        due("8 its sum stays", d.loss(0, 1), 100);
    }

    private static void rate() {
        DeferredDesk d = Checks.desk("carry 0;office 10;office 20;rate 0 5 50;rate 0 9 90;rate 0 7 70;");
        int[] years = {0, 4, 5, 6, 7, 9, 39};
        int[] rates = {10, 10, 50, 50, 70, 70, 70};
        for (int k = 0; k < years.length; k++) {
            due("9 rate in " + years[k], d.rate(0, years[k]), rates[k]);
        }
        due("9 of the other office", d.rate(1, 9), 20);
        due("9 year 40", d.rate(0, 40), -1);
        due("9 year -1", d.rate(0, -1), -1);
        due("9 office 2", d.rate(2, 0), -1);
        due("9 office -1", d.rate(-1, 0), -1);
        due("9 year max", d.rate(0, Integer.MAX_VALUE), -1);
        d.yearEnd();
        due("9 of a closed year", d.rate(0, 0), 10);
    }

    private static DeferredDesk covering() {
        return Checks.desk("carry 1;office 300;profit 0 1 50;taxable 0 300 1 3;deductible 0 400 1 2;loss 0 60 2;loss 0 30 1;");
    }

    private static void covered() {
        DeferredDesk d = covering();
        int[][] told = {{100, 150, 200, 150, 0, 110}, {100, 100, 200, 100, 0, 100}, {100, 100, 0, 0, 100, 0}, {0, 0, 0, 0, 0, 0}};
        for (int t = 1; t <= 4; t++) {
            for (int what = 0; what < 6; what++) {
                due("10 covered " + t + " " + what, d.covered(0, t, what), told[t - 1][what]);
            }
        }
        due("10 what 6", d.covered(0, 1, 6), -1);
        due("10 what -1", d.covered(0, 1, -1), -1);
        due("10 NOW", d.covered(0, 0, 0), -1);
        due("10 year 40", d.covered(0, 40, 0), -1);
        due("10 office 1", d.covered(1, 1, 0), -1);
        due("10 office -1", d.covered(-1, 1, 0), -1);
        d.yearEnd();
        due("10 NOW is 1", d.covered(0, 1, 0), -1);
        due("10 year 2", d.covered(0, 2, 1), 100);
        DeferredDesk none = Checks.desk("carry 0;office 300;deductible 0 10 5 5;profit 0 6 10;");
        due("10 lapses with its own year", none.covered(0, 5, 5), 0);
        due("10 is not there later", none.covered(0, 6, 4), 0);
        DeferredDesk late = Checks.desk("carry 5;office 300;deductible 0 10 39 39;loss 0 7 39;");
        due("10 behind year 39", late.covered(0, 39, 5), 10);
        due("10 behind year 38", late.covered(0, 38, 5), 7);
        DeferredDesk now = Checks.desk("carry 5;office 300;loss 0 7 1;profit 0 1 7;profit 0 2 7;");
        due("10 up to its last year", now.covered(0, 1, 4), 7);
        now.expect(0, 1, 0);
        due("10 not behind its last year", now.covered(0, 2, 4), 0);
    }

    /** What lapses first is used first, whether it was told or is left of a year. */
    private static void coveredInOrder() {
        DeferredDesk d = Checks.desk("carry 1;office 100;loss 0 50 5;deductible 0 40 1 1;profit 0 2 40;profit 0 5 50;");
        due("10 the further one first", d.balance(0, 2), 0);
        DeferredDesk e = Checks.desk("carry 9;office 100;loss 0 50 5;deductible 0 40 1 1;profit 0 2 50;profit 0 6 40;");
        due("10 the told one first", e.balance(0, 2), 0);
        DeferredDesk f = Checks.desk("carry 0;office 100;loss 0 50 5;loss 0 30 3;profit 0 2 30;profit 0 4 50;");
        due("10 the earlier last year first", f.balance(0, 2), 0);
        DeferredDesk h = Checks.desk("carry 0;office 100;loss 0 10 2;loss 0 10 3;profit 0 1 10;profit 0 3 10;");
        due("10 no more than COVER is used", h.balance(0, 2), 0);
        h.expect(0, 3, 0);
        h.expect(0, 4, 10);
        due("10 what was not used lapses", h.covered(0, 4, 4), 0);
        DeferredDesk g = Checks.desk("carry 9;office 100;loss 0 10 1;deductible 0 10 1 1;profit 0 1 10;profit 0 2 10;");
        due("10 DEDUCTED ahead of losses", g.covered(0, 1, 3), 10);
        due("10 the loss lapses", g.balance(0, 2), 10);
    }

    private static void balance() {
        DeferredDesk d = covering();
        int[] told = {90, 105, 140, 15};
        for (int what = 0; what < told.length; what++) {
            due("11 balance " + what, d.balance(0, what), told[what]);
        }
        due("11 what 4 of an office", d.balance(0, 4), NO_SUM);
        due("11 what -1", d.balance(0, -1), NO_SUM);
        due("11 office 1", d.balance(1, 0), NO_SUM);
        due("11 office -2", d.balance(-2, 0), NO_SUM);
        due("11 what 5 of all", d.balance(-1, 5), NO_SUM);
        due("11 what -1 of all", d.balance(-1, -1), NO_SUM);
        // Cut year by year: 3 times 1 * 500 / 1000 is 0.
        DeferredDesk cut = Checks.desk("carry 0;office 500;taxable 0 3 1 3;");
        due("11 cut", cut.balance(0, 0), 0);
        // What is USED of DEDUCTED and of losses is cut together: 2 * 500 / 1000 is 1.
        DeferredDesk both = Checks.desk("carry 0;office 500;deductible 0 1 1 1;loss 0 1 1;profit 0 1 2;");
        due("11 cut together", both.balance(0, 1), 1);
        DeferredDesk three = Checks.desk("carry 0;office 100;office 200;office 500;profit 0 1 900;deductible 0 500 1 1;"
            + "taxable 1 400 2 3;taxable 2 90 1 1;loss 1 70 1;");
        due("11 LIABILITY of all", three.balance(-1, 0), 125);
        due("11 ASSET of all", three.balance(-1, 1), 50);
        due("11 UNRECOGNISED of all", three.balance(-1, 2), 70);
        due("11 NET above 0", three.balance(-1, 3), 50);
        due("11 NET below 0", three.balance(-1, 4), 125);
        DeferredDesk large = Checks.desk("carry 0;office 900;" + "taxable 0 99999 1 1;".repeat(16));
        for (int k = 16; k < 30; k++) {
            large.arises(0, true, 99999, 1, 1);
        }
        due("11 30 sums of 99999", large.balance(0, 3), -2699973);
    }

    private static void dueClosing(DeferredDesk d, int office, int year, int... told) {
        for (int what = 0; what < told.length; what++) {
            due("12 closing " + office + " " + year + " " + what, d.closing(office, year, what), told[what]);
        }
    }

    private static void closing() {
        DeferredDesk d = Checks.desk("carry 3;office 200;profit 0 1 100;deductible 0 300 1 3;taxable 0 90 2 2;");
        due("12 no closing yet", d.closing(0, 0, 0), NO_SUM);
        d.yearEnd();
        dueClosing(d, 0, 0, 18, 38, 110, 20, 0, 20, 0);
        // What was kept: USED 100 in 1, 90 in 2, TAXED 90 in 2; by 300: 30 + 27 - 27.
        due("12 enact", d.enact(0, 1, 300), 200);
        d.yearEnd();
        dueClosing(d, 0, 1, 27, 27, 110, -20, 10, -30, 0);
        d.yearEnd();
        dueClosing(d, 0, 2, 0, 0, 110, 0, 0, 0, -10);
        due("12 a loss of INCOME", d.loss(0, 1), 10);
        due("12 its last year", d.loss(0, 2), 5);
        dueClosing(d, 0, 0, 18, 38, 110, 20, 0, 20, 0);
        due("12 what 7", d.closing(0, 0, 7), NO_SUM);
        due("12 what -1", d.closing(0, 0, -1), NO_SUM);
        due("12 NOW", d.closing(0, 3, 0), NO_SUM);
        due("12 year -1", d.closing(0, -1, 0), NO_SUM);
        due("12 year max", d.closing(0, Integer.MAX_VALUE, 0), NO_SUM);
        due("12 office 1", d.closing(1, 0, 0), NO_SUM);
        due("12 office -1", d.closing(-1, 0, 0), NO_SUM);
        DeferredDesk two = Checks.desk("carry 0;office 100;office 200;taxable 0 50 1 1;profit 1 0 5;taxable 1 60 2 2;");
        two.yearEnd();
        two.enact(1, 2, 300);
        two.yearEnd();
        dueClosing(two, 0, 0, 5, 0, 0, -5, 0, -5, 0);
        dueClosing(two, 1, 0, 12, 0, 0, -12, 0, -12, 5);
        dueClosing(two, 0, 1, 0, 0, 0, 5, 0, 5, 50);
        dueClosing(two, 1, 1, 18, 0, 0, -6, -6, 0, 0);
        Checks.read(d, PLAIN);
        due("12 none with a new text", d.closing(0, 0, 0), NO_SUM);
        d.yearEnd();
        dueClosing(d, 0, 0, 0, 0, 0, 0, 0, 0, 0);
    }

    private static void closingOfLosses() {
        DeferredDesk d = Checks.desk("carry 2;office 1;office 1;profit 0 1 95;loss 0 50 3;loss 0 30 1;loss 0 40 3;loss 1 9 1;");
        d.loses(0, 8, 2);
        d.expect(0, 0, 0);
        d.yearEnd();
        due("12 nothing used by INCOME 0", d.loss(1, 3), 30);
        d.yearEnd();
        int[] left = {0, 0, 33, 9, 0};
        for (int loss = 0; loss < left.length; loss++) {
            due("12 left of " + loss, d.loss(loss, 3), left[loss]);
        }
        d.expect(0, 2, 10);
        d.yearEnd();
        due("12 used up to its last year", d.loss(2, 3), 23);
        due("12 a lapsed loss stays", d.loss(3, 3), 9);
        DeferredDesk longest = Checks.desk("carry 0;office 1;loss 0 5 39;profit 0 0 3;");
        longest.yearEnd();
        due("12 used of one with LAST 39", longest.loss(0, 3), 2);
        DeferredDesk none = Checks.desk("carry 0;office 1;deductible 0 5 1 1;");
        none.yearEnd();
        none.yearEnd();
        due("12 no loss if N is 0", none.now(4), 0);
        due("12 INCOME all the same", none.closing(0, 1, 6), -5);
        DeferredDesk full = Checks.desk("carry 20;office 1;office 1;deductible 0 5 1 1;deductible 1 6 1 1;" + "loss 0 1 9;".repeat(9));
        full.yearEnd();
        full.yearEnd();
        due("12 ten LOSSES", full.now(4), 10);
        due("12 of the first office", full.loss(9, 0), 0);
        due("12 LAST is NOW and N", full.loss(9, 2), 21);
        DeferredDesk late = Checks.desk("carry 20;office 1;deductible 0 5 30 30;");
        for (int year = 0; year <= 30; year++) {
            late.yearEnd();
        }
        due("12 39 at most", late.loss(0, 2), 39);
    }

    private static void would() {
        DeferredDesk d = covering();
        due("13 as it is", d.would(0, 0, 300), 15);
        due("13 from 1 on", d.would(0, 1, 400), 20);
        // 45 + 0 + 0 of 105, 30 + 0 + 0 of 90
        due("13 from 2 on", d.would(0, 2, 0), 15);
        due("13 from 39 on", d.would(0, 39, 900), 15);
        due("13 changes nothing", d.balance(0, 3), 15);
        due("13 nor the rate", d.rate(0, 2), 300);
        due("13 nothing to undo", d.now(6), 0);
        due("13 rate 901", d.would(0, 1, 901), NO_SUM);
        due("13 rate -1", d.would(0, 1, -1), NO_SUM);
        due("13 year 40", d.would(0, 40, 1), NO_SUM);
        due("13 office 1", d.would(1, 1, 1), NO_SUM);
        d.yearEnd();
        due("13 NOW", d.would(0, 1, 300), 0);
        due("13 a closed year", d.would(0, 0, 300), NO_SUM);
    }

    private static void needs() {
        DeferredDesk d = Checks.desk("carry 2;office 100;deductible 0 100 1 1;loss 0 40 4;profit 0 1 30;");
        due("14 in 1", d.needs(0, 1), 110);
        due("14 in 2", d.needs(0, 2), 110);
        due("14 in 3", d.needs(0, 3), 110);
        due("14 in 4, 70 of 1 have lapsed", d.needs(0, 4), -2);
        due("14 year 0", d.needs(0, 0), -1);
        due("14 year 40", d.needs(0, 40), -1);
        due("14 office 1", d.needs(1, 1), -1);
        due("14 office -1", d.needs(-1, 1), -1);
        d.expect(0, 3, 110);
        due("14 none", d.needs(0, 4), 0);
        d.expect(0, 3, 109);
        due("14 one", d.needs(0, 1), 1);
        DeferredDesk most = Checks.desk("carry 2;office 100;deductible 0 99999 1 1;");
        due("14 99999", most.needs(0, 1), 99999);
        most.loses(0, 1, 39);
        due("14 by none", most.needs(0, 1), -2);
        due("14 nothing to undo of it", most.now(6), 1);
        due("14 changes nothing", most.balance(0, 2), 100000);
    }

    private static void enact() {
        DeferredDesk d = Checks.desk("carry 0;office 10;office 20;rate 0 5 50;taxable 0 1000 6 6;");
        due("15 in 3", d.enact(0, 3, 900), 10);
        due("15 ahead of it", d.rate(0, 2), 10);
        due("15 there", d.rate(0, 3), 900);
        due("15 all later years", d.rate(0, 5), 900);
        due("15 the other office", d.rate(1, 3), 20);
        due("15 the balance", d.balance(0, 0), 900);
        due("15 to 0", d.enact(0, 39, 0), 900);
        due("15 rate 901", d.enact(0, 0, 901), -1);
        due("15 rate -1", d.enact(0, 0, -1), -1);
        due("15 office 2", d.enact(2, 0, 1), -1);
        due("15 office -1", d.enact(-1, 0, 1), -1);
        due("15 year 40", d.enact(0, 40, 1), -1);
        due("15 year -1", d.enact(0, -1, 1), -1);
        d.yearEnd();
        due("15 a closed year", d.enact(0, 0, 1), -1);
        due("15 NOW", d.enact(0, 1, 1), 10);
    }

    private static void expect() {
        DeferredDesk d = Checks.desk("carry 0;office 10;profit 0 3 5;profit 0 3 7;");
        due("16 the later one", d.expect(0, 3, 99999), 7);
        due("16 what it was", d.expect(0, 3, 0), 99999);
        due("16 in one year alone", d.covered(0, 4, 1), 0);
        due("16 100000", d.expect(0, 3, 100000), -1);
        due("16 -1", d.expect(0, 3, -1), -1);
        due("16 year 40", d.expect(0, 40, 1), -1);
        due("16 year -1", d.expect(0, -1, 1), -1);
        due("16 office 1", d.expect(1, 3, 1), -1);
        d.yearEnd();
        due("16 a closed year", d.expect(0, 0, 1), -1);
        due("16 NOW", d.expect(0, 1, 6), 0);
        d.yearEnd();
        due("16 INCOME of it", d.closing(0, 1, 6), 6);
    }

    private static void arises() {
        DeferredDesk d = Checks.desk("carry 0;office 10;taxable 0 5 1 1;");
        d.yearEnd();
        due("17 first is NOW", d.arises(0, true, 5, 1, 2), -1);
        due("17 first above NOW", d.arises(0, false, 6, 2, 3), 1);
        int[] told = {0, 0, 6, 2, 3, 6};
        for (int what = 0; what < told.length; what++) {
            due("17 item 1 " + what, d.item(1, what), told[what]);
        }
        due("17 sum 0", d.arises(0, true, 0, 2, 2), -1);
        due("17 sum 100000", d.arises(0, true, 100000, 2, 2), -1);
        due("17 last below first", d.arises(0, true, 1, 5, 4), -1);
        due("17 last 40", d.arises(0, true, 1, 5, 40), -1);
        due("17 first 40", d.arises(0, true, 1, 40, 40), -1);
        due("17 office 1", d.arises(1, true, 1, 5, 5), -1);
        due("17 office -1", d.arises(-1, true, 1, 5, 5), -1);
        for (int k = 2; k < 30; k++) {
            due("17 item " + k, d.arises(0, true, 99999, 39, 39), k);
        }
        due("17 there are 30", d.arises(0, true, 1, 39, 39), -2);
        due("17 not as told first", d.arises(0, true, 0, 39, 39), -1);
        due("17 no office first", d.arises(1, true, 1, 39, 39), -1);
        due("17 items", d.now(3), 30);
    }

    private static void settle() {
        DeferredDesk d = Checks.desk("carry 0;office 100;taxable 0 100 2 4;deductible 0 10 1 1;");
        due("18 item 2", d.settle(2), -1);
        due("18 item -1", d.settle(-1), -1);
        d.yearEnd();
        due("18 nothing is open", d.settle(1), -1);
        d.yearEnd();
        due("18 what is open", d.settle(0), 67);
        int[] told = {0, 1, 67, 3, 3, 67};
        for (int what = 0; what < told.length; what++) {
            due("18 item 0 " + what, d.item(0, what), told[what]);
        }
        due("18 no part of NOW", d.item(0, 102), 0);
        due("18 all in the next year", d.item(0, 103), 67);
        due("18 the balance", d.balance(0, 0), 6);
        due("18 again", d.settle(0), 67);
        d.yearEnd();
        due("18 INCOME of NOW has none of it", d.closing(0, 2, 6), 0);
        d.yearEnd();
        due("18 INCOME of the next year has it", d.closing(0, 3, 6), 67);
        due("18 nothing is open then", d.settle(0), -1);
        DeferredDesk late = Checks.desk("carry 0;office 100;taxable 0 100 1 39;");
        for (int year = 0; year < 38; year++) {
            late.yearEnd();
        }
        due("18 NOW is 38", late.settle(0), 3);
        late.yearEnd();
        due("18 NOW is 39", late.settle(0), -1);
    }

    private static void loses() {
        DeferredDesk d = Checks.desk("carry 0;office 10;loss 0 5 1;");
        d.yearEnd();
        due("19 last is NOW", d.loses(0, 5, 1), -1);
        due("19 last above NOW", d.loses(0, 6, 2), 1);
        int[] told = {0, 6, 2, 6};
        for (int what = 0; what < told.length; what++) {
            due("19 loss 1 " + what, d.loss(1, what), told[what]);
        }
        due("19 sum 0", d.loses(0, 0, 2), -1);
        due("19 sum 100000", d.loses(0, 100000, 2), -1);
        due("19 last 40", d.loses(0, 1, 40), -1);
        due("19 office 1", d.loses(1, 1, 2), -1);
        due("19 office -1", d.loses(-1, 1, 2), -1);
        for (int k = 2; k < 10; k++) {
            due("19 loss " + k, d.loses(0, 99999, 39), k);
        }
        due("19 there are 10", d.loses(0, 1, 39), -2);
        due("19 not as told first", d.loses(0, 0, 39), -1);
        due("19 losses", d.now(4), 10);
        due("19 a lapsed one is not counted", d.balance(0, 2), 800000 - 8 + 6);
    }

    private static void yearEnd() {
        DeferredDesk d = Checks.desk("carry 0;office 10;taxable 0 1000 39 39;");
        for (int year = 1; year <= 39; year++) {
            due("20 year " + year, d.yearEnd(), year);
        }
        due("20 NOW is 39", d.yearEnd(), -1);
        due("20 stays", d.now(0), 39);
        due("20 nothing to come", d.balance(0, 0), 0);
        due("20 closing of 38", d.closing(0, 38, 0), 10);
        due("20 no closing of 39", d.closing(0, 39, 0), NO_SUM);
        due("20 rate of 39", d.enact(0, 39, 1), 10);
        due("20 profit of 39", d.expect(0, 39, 1), 0);
        due("20 no items any more", d.arises(0, true, 1, 39, 39), -1);
        due("20 no losses any more", d.loses(0, 1, 39), -1);
        due("20 covered", d.covered(0, 39, 0), -1);
        due("20 would", d.would(0, 39, 5), 0);
        due("20 needs", d.needs(0, 39), -1);
    }

    private static void undo() {
        DeferredDesk d = Checks.desk("carry 2;office 10;rate 0 5 50;profit 0 1 4;taxable 0 90 1 3;deductible 0 30 1 1;loss 0 40 2;");
        d.enact(0, 3, 77);
        d.expect(0, 1, 88);
        d.arises(0, true, 5, 1, 1);
        d.settle(0);
        d.loses(0, 3, 3);
        d.yearEnd();
        d.yearEnd();
        due("21 left behind INCOME 153", d.loss(0, 3), 0);
        due("21 undo yearEnd", d.undo(), 6);
        due("21 what was left", d.loss(0, 3), 40);
        due("21 year", d.now(0), 1);
        due("21 its closing is gone", d.closing(0, 1, 0), NO_SUM);
        due("21 the one ahead is not", d.closing(0, 0, 6), 0);
        due("21 undo yearEnd", d.undo(), 5);
        due("21 undo loses", d.undo(), 4);
        due("21 losses", d.now(4), 1);
        due("21 undo settle", d.undo(), 3);
        due("21 part", d.item(0, 103), 30);
        due("21 undo arises", d.undo(), 2);
        due("21 items", d.now(3), 2);
        due("21 undo expect", d.undo(), 1);
        due("21 profit", d.covered(0, 1, 1), 34);
        due("21 undo enact", d.undo(), 0);
        due("21 rates ahead of 5", d.rate(0, 4), 10);
        due("21 rates from 5 on", d.rate(0, 5), 50);
        due("21 none is", d.undo(), -1);
        for (int k = 1; k <= 12; k++) {
            d.expect(0, 9, k);
            due("21 kept " + k, d.now(6), Math.min(k, 10));
        }
        for (int k = 9; k >= 0; k--) {
            due("21 undo to " + k, d.undo(), k);
        }
        due("21 ten of twelve", d.covered(0, 9, 1), 2);
        due("21 none is", d.undo(), -1);
        d.enact(0, 0, 10);
        due("21 an act that leaves all as it is", d.now(6), 1);
        Checks.read(d, PLAIN);
        due("21 none with a new text", d.undo(), -1);
    }

    private static void refusedCallsChangeNothing() {
        DeferredDesk d = Checks.desk(PLAIN);
        d.enact(0, 40, 1);
        d.expect(0, 0, -1);
        d.arises(0, true, 0, 1, 1);
        d.settle(0);
        d.loses(0, 0, 1);
        CHECKS.dueThrow("item", d, true, 0, 0);
        due("nothing to undo", d.now(6), 0);
        due("undo", d.undo(), -1);
    }
}
