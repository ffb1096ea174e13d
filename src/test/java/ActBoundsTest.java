import java.util.List;
import java.util.function.Supplier;
import java.util.function.ToIntFunction;

/** The bounds of promises 15 to 21: the calls that act, and undo. */
public final class ActBoundsTest {
    private static final int NO_SUM = -100000000;
    private static final int MAX = Integer.MAX_VALUE;
    private static final int MIN = Integer.MIN_VALUE;
    private static final String THREE = "carry 1;office 10;office 20;office 30;";
    /** NOW is 2, with two OFFICES, four ITEMS and three LOSSES. */
    private static final Supplier<DeferredDesk> RICH = Sentences::richDesk;
    private static final Sentences S = new Sentences();

    public static void main(String[] args) {
        enact();
        expect();
        arises();
        arisesInOrder();
        settle();
        settleRefused();
        loses();
        losesInOrder();
        yearEnd();
        undoOfEachAct();
        undoOfTen();
        undoOfNone();
        undoOfClosings();
        S.finish();
    }

    private static DeferredDesk desk(String text) {
        return Checks.desk(text);
    }

    private static DeferredDesk desk(int years, String text) {
        return Sentences.desk(years, text);
    }

    private static Supplier<DeferredDesk> at(int now) {
        return () -> desk(now, THREE);
    }

    private static void enact() {
        S.of("Promise 15: enact", "RATE of an OFFICE from a YEAR (NOW or later) on is so: what it was there.");
        for (int now : new int[] {0, 2, 5}) {
            for (int year : new int[] {now, now + 1, 38, 39}) {
                for (int rate : new int[] {0, 1, 899, 900}) {
                    S.isDone("enact " + year + " " + rate, 30, at(now), x -> x.enact(2, year, rate));
                    DeferredDesk d = at(now).get();
                    d.enact(2, year, rate);
                    S.due("ahead of it", d.rate(2, year - 1), year == 0 ? -1 : 30);
                    S.due("there", d.rate(2, year), rate);
                    S.due("in 39", d.rate(2, 39), rate);
                    S.due("of another OFFICE", d.rate(1, 39), 20);
                    S.due("again", d.enact(2, year, 5), rate);
                }
            }
        }
        DeferredDesk last = desk(39, THREE);
        S.due("NOW is 39", last.enact(0, 39, 900), 10);
        S.due("it is so", last.rate(0, 39), 900);
        S.of("Promise 15: enact", "NONE: no such ones, another RATE.");
        for (int year : new int[] {-1, 0, 1, 40, 41, MAX, MIN}) {
            S.changesNothing("year " + year, -1, RICH, x -> x.enact(0, year, 1));
        }
        for (int office : new int[] {-1, 2, 3, MAX, MIN}) {
            S.changesNothing("office " + office, -1, RICH, x -> x.enact(office, 5, 1));
        }
        for (int rate : new int[] {-1, 901, 902, 1000, MAX, MIN}) {
            S.changesNothing("rate " + rate, -1, RICH, x -> x.enact(0, 5, rate));
        }
        S.changesNothing("38, NOW is 39", -1, () -> desk(39, THREE), x -> x.enact(0, 38, 1));
    }

    private static void expect() {
        S.of("Promise 16: expect", "PROFIT (0 to 99999) of an OFFICE in a YEAR (NOW or later): what it was.");
        for (int now : new int[] {0, 2, 5}) {
            for (int year : new int[] {now, now + 1, 38, 39}) {
                for (int sum : new int[] {0, 1, 99998, 99999}) {
                    S.isDone("expect " + year + " " + sum, 0, at(now), x -> x.expect(2, year, sum));
                    DeferredDesk d = at(now).get();
                    d.expect(2, year, sum);
                    S.due("there", d.covered(2, year, 1), year == now ? -1 : sum);
                    S.due("behind it", d.covered(2, year + 1, 1), year == 39 ? -1 : 0);
                    S.due("of another OFFICE", d.expect(1, year, 0), 0);
                    S.due("again", d.expect(2, year, 5), sum);
                }
            }
        }
        DeferredDesk last = desk(39, THREE);
        S.due("NOW is 39", last.expect(0, 39, 99999), 0);
        S.due("it is so", last.expect(0, 39, 0), 99999);
        DeferredDesk now = desk(3, THREE);
        now.expect(0, 3, 8);
        now.yearEnd();
        S.due("INCOME of NOW", now.closing(0, 3, 6), 8);
        S.of("Promise 16: expect", "NONE: no such ones, another PROFIT.");
        for (int year : new int[] {-1, 0, 1, 40, 41, MAX, MIN}) {
            S.changesNothing("year " + year, -1, RICH, x -> x.expect(0, year, 1));
        }
        for (int office : new int[] {-1, 2, 3, MAX, MIN}) {
            S.changesNothing("office " + office, -1, RICH, x -> x.expect(office, 5, 1));
        }
        for (int sum : new int[] {-1, 100000, 100001, MAX, MIN}) {
            S.changesNothing("sum " + sum, -1, RICH, x -> x.expect(0, 5, sum));
        }
        S.changesNothing("38, NOW is 39", -1, () -> desk(39, THREE), x -> x.expect(0, 38, 1));
    }

    private static void dueItem(DeferredDesk d, int item, int... told) {
        for (int what = 0; what < told.length; what++) {
            S.due("item " + item + " " + what, d.item(item, what), told[what]);
        }
    }

    private static void arises() {
        S.of("Promise 17: arises", "A further ITEM, FIRST above NOW: its number.");
        for (int now : new int[] {0, 2}) {
            for (int[] span : new int[][] {{now + 1, now + 1}, {now + 1, now + 2}, {now + 1, 39}, {38, 38}, {38, 39}, {39, 39}}) {
                for (int sum : new int[] {1, 2, 99998, 99999}) {
                    S.isDone("arises " + sum + " " + span[0] + " " + span[1], 0, at(now), x -> x.arises(2, false, sum, span[0], span[1]));
                    DeferredDesk d = at(now).get();
                    d.arises(2, false, sum, span[0], span[1]);
                    dueItem(d, 0, 2, 0, sum, span[0], span[1], sum);
                    S.due("the next", d.arises(0, true, sum, span[0], span[1]), 1);
                    dueItem(d, 1, 0, 1, sum, span[0], span[1], sum);
                }
            }
        }
        S.due("behind those of a TEXT", desk(THREE + "taxable 0 5 1 1;".repeat(16)).arises(0, true, 1, 1, 1), 16);
        S.due("NOW is 38", desk(38, THREE).arises(0, true, 1, 39, 39), 0);
        S.of("Promise 17: arises", "NONE: no such OFFICE, numbers not as told;");
        for (int office : new int[] {-1, 2, 3, MAX, MIN}) {
            S.changesNothing("office " + office, -1, RICH, x -> x.arises(office, true, 5, 5, 6));
        }
        for (int sum : new int[] {-1, 0, 100000, 100001, MAX, MIN}) {
            S.changesNothing("sum " + sum, -1, RICH, x -> x.arises(0, true, sum, 5, 6));
        }
        for (int first : new int[] {-1, 0, 1, 2, 40, MAX, MIN}) {
            S.changesNothing("first " + first, -1, RICH, x -> x.arises(0, true, 5, first, 39));
            S.changesNothing("first and last " + first, -1, RICH, x -> x.arises(0, true, 5, first, first));
        }
        for (int last : new int[] {-1, 0, 2, 4, 40, 41, MAX, MIN}) {
            S.changesNothing("last " + last, -1, RICH, x -> x.arises(0, true, 5, 5, last));
        }
        S.changesNothing("NOW is 39", -1, () -> desk(39, THREE), x -> x.arises(0, true, 1, 39, 39));
        S.changesNothing("40, NOW is 39", -1, () -> desk(39, THREE), x -> x.arises(0, true, 1, 40, 40));
    }

    private static DeferredDesk items(int count) {
        DeferredDesk d = desk(THREE + "taxable 0 5 1 1;".repeat(16));
        for (int k = 16; k < count; k++) {
            d.arises(1, false, k, 1, 2);
        }
        return d;
    }

    private static void arisesInOrder() {
        S.of("Promise 17: arises", "-2: there are 30.");
        S.due("28", items(28).arises(1, true, 1, 1, 1), 28);
        S.due("29", items(29).arises(1, true, 1, 1, 1), 29);
        S.changesNothing("30", -2, () -> items(30), x -> x.arises(1, true, 1, 1, 1));
        DeferredDesk d = items(30);
        d.undo();
        S.due("one is undone", d.arises(1, true, 1, 1, 1), 29);
        S.due("30 again", d.arises(1, true, 1, 1, 1), -2);
        d.yearEnd();
        S.due("those of which nothing is OPEN count", d.arises(1, true, 1, 2, 2), -2);
        S.of("Promise 17: arises", "The first that is so: NONE:");
        S.changesNothing("30, no such OFFICE", -1, () -> items(30), x -> x.arises(3, true, 1, 1, 1));
        S.changesNothing("30, SUM 0", -1, () -> items(30), x -> x.arises(0, true, 0, 1, 1));
        S.changesNothing("30, FIRST is NOW", -1, () -> items(30), x -> x.arises(0, true, 1, 0, 1));
        S.changesNothing("30, LAST below FIRST", -1, () -> items(30), x -> x.arises(0, true, 1, 2, 1));
        S.changesNothing("30, LAST 40", -1, () -> items(30), x -> x.arises(0, true, 1, 2, 40));
    }

    private static void settle() {
        S.of("Promise 18: settle", "All that is OPEN of an ITEM comes in the next YEAR: SUM is what is OPEN, FIRST and LAST NOW and 1");
        String text = "carry 1;office 10;office 100;taxable 1 100 2 4;deductible 0 10 1 1;";
        int[] open = {100, 100, 67, 34};
        for (int now = 0; now < open.length; now++) {
            int years = now;
            S.isDone("settle, NOW is " + now, open[now], () -> desk(years, text), x -> x.settle(0));
            DeferredDesk d = desk(now, text);
            d.settle(0);
            dueItem(d, 0, 1, 1, open[now], now + 1, now + 1, open[now]);
            S.due("in the next YEAR", d.item(0, 101 + now), open[now]);
            S.due("behind it", d.item(0, 102 + now), 0);
            S.due("LIABILITY", d.balance(1, 0), open[now] / 10);
            S.due("the other ITEM", d.item(1, 2), 10);
            S.due("once more", d.settle(0), open[now]);
        }
        S.of("Promise 18: settle", "(PARTS of NOW and ahead are told no more, INCOME of NOW counts none of it)");
        DeferredDesk d = desk(3, text);
        S.due("PART ahead", d.item(0, 102), 33);
        S.due("PART of NOW", d.item(0, 103), 33);
        d.settle(0);
        S.due("PART ahead, no more", d.item(0, 102), 0);
        S.due("PART of NOW, no more", d.item(0, 103), 0);
        S.due("PART of the next", d.item(0, 104), 34);
        d.yearEnd();
        S.due("INCOME of NOW", d.closing(1, 3, 6), 0);
        d.yearEnd();
        S.due("INCOME of the next", d.closing(1, 4, 6), 34);
        S.due("INCOME of 2 stays", d.closing(1, 2, 6), 33);
    }

    private static void settleRefused() {
        S.of("Promise 18: settle", "NONE: no such one, nothing is OPEN, NOW is 39.");
        for (int item : new int[] {-1, 4, 5, 29, 30, MAX, MIN}) {
            S.changesNothing("item " + item, -1, RICH, x -> x.settle(item));
        }
        S.isDone("item 3", 77, RICH, x -> x.settle(3));
        S.changesNothing("none of a new object", -1, DeferredDesk::new, x -> x.settle(0));
        S.changesNothing("the 31st", -1, () -> items(30), x -> x.settle(30));
        S.due("the 30th", items(30).settle(29), 29);
        String text = "carry 1;office 10;taxable 0 9 1 3;taxable 0 39 1 39;taxable 0 1 1 39;";
        S.due("the YEAR ahead of LAST", desk(2, text).settle(0), 3);
        S.changesNothing("LAST", -1, () -> desk(3, text), x -> x.settle(0));
        S.changesNothing("behind LAST", -1, () -> desk(4, text), x -> x.settle(0));
        S.due("NOW is 38", desk(38, text).settle(1), 1);
        S.due("NOW is 38, all of 1", desk(38, text).settle(2), 1);
        S.changesNothing("NOW is 39", -1, () -> desk(39, text), x -> x.settle(1));
    }

    private static void dueLoss(DeferredDesk d, int loss, int... told) {
        for (int what = 0; what < told.length; what++) {
            S.due("loss " + loss + " " + what, d.loss(loss, what), told[what]);
        }
    }

    private static void loses() {
        S.of("Promise 19: loses", "A further LOSS, LAST above NOW: its number.");
        for (int now : new int[] {0, 2}) {
            for (int last : new int[] {now + 1, now + 2, 38, 39}) {
                for (int sum : new int[] {1, 2, 99998, 99999}) {
                    S.isDone("loses " + sum + " " + last, 0, at(now), x -> x.loses(2, sum, last));
                    DeferredDesk d = at(now).get();
                    d.loses(2, sum, last);
                    dueLoss(d, 0, 2, sum, last, sum);
                    S.due("the next", d.loses(0, sum, last), 1);
                    dueLoss(d, 1, 0, sum, last, sum);
                }
            }
        }
        S.due("behind those of a TEXT", desk(THREE + "loss 0 5 1;".repeat(9)).loses(0, 1, 1), 9);
        S.due("NOW is 38", desk(38, THREE).loses(0, 1, 39), 0);
        S.of("Promise 19: loses", "NONE: no such OFFICE, numbers not as told;");
        for (int office : new int[] {-1, 2, 3, MAX, MIN}) {
            S.changesNothing("office " + office, -1, RICH, x -> x.loses(office, 5, 5));
        }
        for (int sum : new int[] {-1, 0, 100000, 100001, MAX, MIN}) {
            S.changesNothing("sum " + sum, -1, RICH, x -> x.loses(0, sum, 5));
        }
        for (int last : new int[] {-1, 0, 1, 2, 40, 41, MAX, MIN}) {
            S.changesNothing("last " + last, -1, RICH, x -> x.loses(0, 5, last));
        }
        S.changesNothing("NOW is 39", -1, () -> desk(39, THREE), x -> x.loses(0, 1, 39));
        S.changesNothing("40, NOW is 39", -1, () -> desk(39, THREE), x -> x.loses(0, 1, 40));
    }

    private static DeferredDesk losses(int count) {
        DeferredDesk d = desk(THREE + "loss 0 5 1;".repeat(3));
        for (int k = 3; k < count; k++) {
            d.loses(1, k, 1);
        }
        return d;
    }

    private static void losesInOrder() {
        S.of("Promise 19: loses", "-2: there are 10.");
        S.due("8", losses(8).loses(1, 1, 1), 8);
        S.due("9", losses(9).loses(1, 1, 1), 9);
        S.changesNothing("10", -2, () -> losses(10), x -> x.loses(1, 1, 1));
        S.changesNothing("10 of a TEXT", -2, () -> desk(THREE + "loss 0 5 1;".repeat(10)), x -> x.loses(1, 1, 1));
        DeferredDesk d = losses(10);
        d.undo();
        S.due("one is undone", d.loses(1, 1, 1), 9);
        S.due("10 again", d.loses(1, 1, 1), -2);
        d.yearEnd();
        d.yearEnd();
        S.due("those that have lapsed count", d.loses(1, 1, 3), -2);
        DeferredDesk income = desk(THREE + "deductible 0 5 1 1;" + "loss 0 5 9;".repeat(9));
        income.yearEnd();
        income.yearEnd();
        S.due("that of an INCOME counts", income.loses(1, 1, 3), -2);
        S.of("Promise 19: loses", "The first that is so: NONE:");
        S.changesNothing("10, no such OFFICE", -1, () -> losses(10), x -> x.loses(3, 1, 1));
        S.changesNothing("10, SUM 0", -1, () -> losses(10), x -> x.loses(1, 0, 1));
        S.changesNothing("10, SUM 100000", -1, () -> losses(10), x -> x.loses(1, 100000, 1));
        S.changesNothing("10, LAST is NOW", -1, () -> losses(10), x -> x.loses(1, 1, 0));
        S.changesNothing("10, LAST 40", -1, () -> losses(10), x -> x.loses(1, 1, 40));
    }

    private static void yearEnd() {
        S.of("Promise 20: yearEnd", "NOW is CLOSED: NOW then.");
        S.isDone("yearEnd of 0", 1, DeferredDesk::new, DeferredDesk::yearEnd);
        S.isDone("yearEnd of 2", 3, RICH, DeferredDesk::yearEnd);
        S.due("yearEnd of 37", desk(37, THREE).yearEnd(), 38);
        S.due("yearEnd of 38", desk(38, THREE).yearEnd(), 39);
        S.of("Promise 20: yearEnd", "NONE: it is 39.");
        String text = THREE + "profit 0 39 5;taxable 0 9 39 39;loss 0 3 39;";
        S.changesNothing("yearEnd of 39", -1, () -> desk(39, text), DeferredDesk::yearEnd);
        DeferredDesk d = desk(39, text);
        S.due("what is left of a LOSS of 39", d.loss(0, 3), 3);
        d.undo();
        S.due("one is undone", d.yearEnd(), 39);
        S.due("39 again", d.yearEnd(), -1);
    }

    private static void undoOfEachAct() {
        S.of("Promise 21: undo", "The latest enact(), expect(), arises(), settle(), loses(), yearEnd() that was done is "
            + "undone: how many more can be");
        String text = "carry 2;office 10;rate 0 5 50;profit 0 1 4;taxable 0 90 1 3;deductible 0 30 1 1;loss 0 40 2;";
        for (ToIntFunction<DeferredDesk> act : acts()) {
            int done = act.applyAsInt(desk(1, text));
            S.isDone("an act that answers " + done, done, () -> desk(1, text), act);
            S.isDone("an act behind others that answers " + done, act.applyAsInt(Sentences.richDesk()), RICH, act);
        }
        DeferredDesk d = desk(text);
        for (ToIntFunction<DeferredDesk> act : acts()) {
            act.applyAsInt(d);
        }
        for (int k = 5; k >= 0; k--) {
            S.due("what can be undone", d.now(6), k + 1);
            S.due("undo", d.undo(), k);
        }
        S.same("all are undone", Shown.of(d), Shown.of(desk(text)));
        // An act that leaves all as it was is done all the same.
        S.isDone("the same RATE", 10, () -> desk(text), x -> x.enact(0, 0, 10));
        S.isDone("the same PROFIT", 4, () -> desk(text), x -> x.expect(0, 1, 4));
    }

    private static List<ToIntFunction<DeferredDesk>> acts() {
        return List.of(x -> x.enact(0, 3, 77), x -> x.expect(0, 3, 88), x -> x.arises(0, true, 5, 4, 5),
            x -> x.settle(0), x -> x.loses(0, 3, 4), DeferredDesk::yearEnd);
    }

    private static void undoOfTen() {
        S.of("Promise 21: undo", "(10 at most are kept);");
        for (int acts = 0; acts <= 23; acts++) {
            DeferredDesk d = desk(THREE);
            for (int k = 1; k <= acts; k++) {
                d.expect(0, 9, k);
            }
            int kept = Math.min(10, acts);
            S.due("kept of " + acts, d.now(6), kept);
            for (int k = 1; k <= kept; k++) {
                S.due("undo of " + acts, d.undo(), kept - k);
                S.due("what was ahead of it", d.covered(0, 9, 1), acts - k);
            }
            S.due("no more of " + acts, d.undo(), -1);
            S.due("none to be undone", d.now(6), 0);
            S.due("the oldest stay done", d.covered(0, 9, 1), acts - kept);
        }
        // Some undone, others done in their place: ten at most all the same, and the right ones.
        DeferredDesk d = desk(THREE);
        for (int k = 1; k <= 12; k++) {
            d.expect(0, 9, k);
        }
        d.undo();
        d.undo();
        S.due("eight", d.now(6), 8);
        d.expect(0, 9, 50);
        d.expect(0, 9, 51);
        d.expect(0, 9, 52);
        S.due("ten", d.now(6), 10);
        int[] ahead = {51, 50, 10, 9, 8, 7, 6, 5, 4, 3};
        for (int k = 0; k < ahead.length; k++) {
            S.due("undo", d.undo(), 9 - k);
            S.due("ahead of it", d.covered(0, 9, 1), ahead[k]);
        }
        S.due("no more", d.undo(), -1);
    }

    private static void undoOfNone() {
        S.of("Promise 21: undo", "NONE: none is.");
        S.changesNothing("a new object", -1, DeferredDesk::new, DeferredDesk::undo);
        S.changesNothing("a new TEXT", -1, () -> desk(THREE), DeferredDesk::undo);
        Supplier<DeferredDesk> undone = () -> {
            DeferredDesk d = desk(THREE);
            d.yearEnd();
            d.undo();
            return d;
        };
        S.changesNothing("all undone", -1, undone, DeferredDesk::undo);
        Supplier<DeferredDesk> refused = () -> {
            DeferredDesk d = desk(THREE);
            d.enact(0, 40, 1);
            d.expect(0, 0, -1);
            d.arises(0, true, 0, 1, 1);
            d.settle(0);
            d.loses(0, 0, 1);
            return d;
        };
        S.changesNothing("refused calls", -1, refused, DeferredDesk::undo);
        S.changesNothing("questions", -1, () -> {
            DeferredDesk d = desk(THREE);
            d.would(0, 1, 5);
            d.needs(0, 1);
            d.covered(0, 1, 0);
            return d;
        }, DeferredDesk::undo);
        DeferredDesk fault = Sentences.richDesk();
        int acts = fault.now(6);
        Checks.read(fault, "carry");
        S.due("a FAULT leaves them", fault.undo(), acts - 1);
        // The tape and the FAULT are not undone.
        fault.feed(1, 1, 1, 1, 1);
        fault.undo();
        S.due("the tape", fault.now(7), 20);
        S.due("the FAULT", fault.fault(), 1);
    }

    private static void undoOfClosings() {
        S.of("Promise 21: undo", "yearEnd() that was done is undone");
        String text = "carry 3;office 100;profit 0 0 7;taxable 0 3000 1 3;deductible 0 5000 1 1;loss 0 10 1;";
        DeferredDesk d = desk(3, text);
        S.due("the LOSS of YEAR 1", d.loss(1, 1), 4000);
        S.due("undo of 2", d.undo(), 2);
        S.due("NOW", d.now(0), 2);
        S.due("no CLOSING of 2", d.closing(0, 2, 0), NO_SUM);
        S.due("that of 1 stays", d.closing(0, 1, 6), -4000);
        S.due("what is left of it", d.loss(1, 3), 4000);
        S.due("undo of 1", d.undo(), 1);
        S.due("no CLOSING of 1", d.closing(0, 1, 0), NO_SUM);
        S.due("no LOSS of it", d.now(4), 1);
        S.due("undo of 0", d.undo(), 0);
        S.due("no CLOSING of 0", d.closing(0, 0, 0), NO_SUM);
        S.due("all is left", d.loss(0, 3), 10);
        // Closed once more with another RATE: nothing of the CLOSINGS that were undone is left.
        d.enact(0, 0, 200);
        d.yearEnd();
        d.yearEnd();
        DeferredDesk other = desk(text);
        other.enact(0, 0, 200);
        other.yearEnd();
        other.yearEnd();
        S.same("closed once more", Shown.of(d), Shown.of(other));
    }
}
