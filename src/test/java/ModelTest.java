import java.util.NoSuchElementException;
import java.util.Random;

/** Long runs of calls, drawn from fixed seeds, answered by the desk as the model answers them. */
public final class ModelTest {
    private static final int RUNS = 1500;
    private static final int CALLS = 512;
    private static final int MOST_TO_TRY = 1200;
    private static final int[] ODD = {-1, -2, 0, 1, 3, 39, 40, 41, 100, 900, 901, 99999, 100000,
        Integer.MAX_VALUE, Integer.MIN_VALUE, Integer.MAX_VALUE - 19, -100};

    private final Random random;
    private final DeferredDesk desk = new DeferredDesk();
    private final Model model = new Model();
    private final Checks checks;
    private final int run;
    private final int sumBound;
    private final boolean onward;

    private ModelTest(int run, Checks checks) {
        this.run = run;
        this.checks = checks;
        random = new Random(run * 7919L + 1);
        // Half of the runs tell few losses and undo little: they come to the last years with room for losses.
        onward = random.nextBoolean();
        sumBound = new int[] {20, 300, 5000, 99999}[random.nextInt(4)];
    }

    public static void main(String[] args) {
        Checks checks = new Checks();
        for (int run = 0; run < RUNS; run++) {
            new ModelTest(run, checks).go();
        }
        checks.finish();
    }

    private void go() {
        int calls = 0;
        while (calls < CALLS) {
            int kind = random.nextInt(100);
            // Two runs of three keep to one text, and so come to the last years.
            if (calls == 0 && run % 50 != 0 || kind < 2 && run % 3 == 0) {
                calls += text(TextMaker.make(random, sumBound));
            } else if (kind < 40) {
                act();
            } else {
                ask();
            }
            calls++;
        }
    }

    private void same(String call, int got, int want) {
        checks.due("run " + run + ": " + call, got, want);
    }

    private int text(String text) {
        if (random.nextInt(8) != 0) {
            same("end 0", desk.end(0) ? 1 : 0, model.end(0) ? 1 : 0);
        }
        int fed = 0;
        for (int k = 0; k < text.length(); k += 20) {
            int[] n = new int[5];
            for (int j = 0; j < 20; j++) {
                int sign = k + j < text.length() ? text.charAt(k + j) & 255 : 0;
                n[j / 4] = n[j / 4] << 8 | sign;
            }
            same("feed", desk.feed(n[0], n[1], n[2], n[3], n[4]), model.feed(n));
            fed++;
        }
        same("end", desk.end(text.length()) ? 1 : 0, model.end(text.length()) ? 1 : 0);
        same("now(7)", desk.now(7), model.now(7));
        same("text of " + text, desk.text(), model.text());
        same("fault of " + text, desk.fault(), model.fault());
        return fed + 5;
    }

    private int odd() {
        return ODD[random.nextInt(ODD.length)];
    }

    private int some(int least, int most) {
        return random.nextInt(40) == 0 ? odd() : least + random.nextInt(Math.max(1, most - least + 1));
    }

    private int office() {
        return some(0, model.now(2) - 1);
    }

    private int yearToCome() {
        return some(model.now(0) + 1, random.nextBoolean() ? 39 : Math.min(39, model.now(0) + 6));
    }

    private void act() {
        int kind = random.nextInt(9);
        boolean rare = kind == 4 || kind == 7;
        switch (onward && rare && random.nextInt(8) != 0 ? 5 : kind) {
            case 0: {
                int o = office(), y = some(model.now(0), 39), r = some(0, 900);
                same("enact " + o + " " + y + " " + r, desk.enact(o, y, r), model.enact(o, y, r));
                break;
            }
            case 1: {
                int o = office(), y = some(model.now(0), Math.min(39, model.now(0) + 8)), s = some(0, sumBound);
                same("expect " + o + " " + y + " " + s, desk.expect(o, y, s), model.expect(o, y, s));
                break;
            }
            case 2: {
                int o = office(), s = some(1, sumBound), f = yearToCome(), l = some(f, random.nextBoolean() ? 39 : f + 3);
                boolean t = random.nextBoolean();
                same("arises " + o + t + s + " " + f + " " + l, desk.arises(o, t, s, f, l), model.arises(o, t, s, f, l));
                break;
            }
            case 3: {
                int i = some(0, model.now(3));
                same("settle " + i, desk.settle(i), model.settle(i));
                break;
            }
            case 4: {
                int o = office(), s = some(1, sumBound), l = yearToCome();
                same("loses " + o + " " + s + " " + l, desk.loses(o, s, l), model.loses(o, s, l));
                break;
            }
            case 5:
            case 6:
                same("yearEnd", desk.yearEnd(), model.yearEnd());
                break;
            case 7:
                for (int k = random.nextInt(4); k >= 0; k--) {
                    same("undo", desk.undo(), model.undo());
                }
                break;
            default:
                feedOdd();
        }
    }

    private void feedOdd() {
        int a = random.nextInt(), b = odd();
        same("feed", desk.feed(a, b, a, b, a), model.feed(a, b, a, b, a));
        int n = random.nextInt(4) == 0 ? odd() : random.nextInt(660) - 5;
        same("end " + n, desk.end(n) ? 1 : 0, model.end(n) ? 1 : 0);
    }

    private void ask() {
        switch (random.nextInt(11)) {
            case 0: {
                int w = some(-1, 8);
                same("now " + w, desk.now(w), model.now(w));
                break;
            }
            case 1: {
                int i = some(0, model.now(3)), w = random.nextBoolean() ? some(-1, 6) : some(99, 140);
                same("item " + i + " " + w, item(i, w, true), item(i, w, false));
                break;
            }
            case 2: {
                int i = some(0, model.now(4)), w = some(-1, 4);
                same("loss " + i + " " + w, loss(i, w, true), loss(i, w, false));
                break;
            }
            case 3: {
                int o = office(), y = some(0, 40);
                same("rate " + o + " " + y, desk.rate(o, y), model.rate(o, y));
                break;
            }
            case 4:
            case 5: {
                int o = office(), y = random.nextInt(8) == 0 ? 39 : yearToCome(), w = some(-1, 6);
                same("covered " + o + " " + y + " " + w, desk.covered(o, y, w), model.covered(o, y, w));
                break;
            }
            case 6: {
                int o = some(-1, model.now(2)), w = some(-1, 5);
                same("balance " + o + " " + w, desk.balance(o, w), model.balance(o, w));
                break;
            }
            case 7:
            case 8: {
                int o = office(), y = some(-1, model.now(0)), w = some(-1, 7);
                same("closing " + o + " " + y + " " + w, desk.closing(o, y, w), model.closing(o, y, w));
                break;
            }
            case 9: {
                int o = office(), y = some(model.now(0), 39), r = some(0, 900);
                same("would " + o + " " + y + " " + r, desk.would(o, y, r), model.would(o, y, r));
                break;
            }
            default: {
                int o = office(), y = yearToCome();
                // The model tries every profit: only where that ends soon.
                if (model.claims(o) <= MOST_TO_TRY) {
                    same("needs " + o + " " + y, desk.needs(o, y), model.needs(o, y));
                }
            }
        }
    }

    private static final int THROWN = Integer.MIN_VALUE;

    private int item(int i, int w, boolean ofDesk) {
        try {
            return ofDesk ? desk.item(i, w) : model.item(i, w);
        } catch (NoSuchElementException e) {
            return THROWN;
        }
    }

    private int loss(int i, int w, boolean ofDesk) {
        try {
            return ofDesk ? desk.loss(i, w) : model.loss(i, w);
        } catch (NoSuchElementException e) {
            return THROWN;
        }
    }
}
