import java.util.ArrayList;
import java.util.Comparator;
import java.util.List;
import java.util.NoSuchElementException;
import java.util.regex.Matcher;
import java.util.regex.Pattern;

/** The document's words told once more, as plainly as the Java library lets them be, to be compared with. */
final class Model {
    private static final int NO_SUM = -100000000;

    private static final class Item {
        int office;
        boolean taxable;
        int sum;
        int first;
        int last;

        int part(int t) {
            if (t < first || t > last) {
                return 0;
            }
            long ahead = 0;
            for (int y = first; y < t; y++) {
                ahead += part(y, ahead);
            }
            return (int) part(t, ahead);
        }

        private long part(int t, long ahead) {
            return (long) sum * (t - first + 1) / (last - first + 1) - ahead;
        }

        Item copy() {
            return newItem(office, taxable, sum, first, last);
        }
    }

    private static final class Loss {
        int office;
        int sum;
        int last;
        int left;

        Loss(int office, int sum, int last, int left) {
            this.office = office;
            this.sum = sum;
            this.last = last;
            this.left = left;
        }
    }

    private static final class Year {
        int t;
        int taxed;
        int cover;
        int deducted;
        int usedDeducted;
        int usedLosses;
        int behind;

        int used() {
            return usedDeducted + usedLosses;
        }
    }

    private static final class Closing {
        int[] sums = new int[7];
        List<Year> years;

        int net() {
            return sums[1] - sums[0];
        }
    }

    private static final class State {
        int now;
        int carry;
        List<int[]> rates = new ArrayList<>();
        List<int[]> profits = new ArrayList<>();
        List<Item> items = new ArrayList<>();
        List<Loss> losses = new ArrayList<>();
        List<List<Closing>> closings = new ArrayList<>();

        State copy() {
            State state = new State();
            state.now = now;
            state.carry = carry;
            for (int[] row : rates) {
                state.rates.add(row.clone());
            }
            for (int[] row : profits) {
                state.profits.add(row.clone());
            }
            for (Item item : items) {
                state.items.add(item.copy());
            }
            for (Loss loss : losses) {
                state.losses.add(new Loss(loss.office, loss.sum, loss.last, loss.left));
            }
            state.closings.addAll(closings);
            return state;
        }
    }

    private static final class Fault extends Exception {
        private static final long serialVersionUID = 1L;
        final int kind;
        final int place;

        Fault(int kind, int place) {
            this.kind = kind;
            this.place = place;
        }
    }

    private final StringBuilder tape = new StringBuilder();
    private final List<State> history = new ArrayList<>();
    private State state = new State();
    private int faultKind;

    Model() {
        state.rates.add(new int[40]);
        state.profits.add(new int[40]);
    }

    int feed(int... numbers) {
        if (tape.length() > 620) {
            return -1;
        }
        for (int number : numbers) {
            for (int k = 3; k >= 0; k--) {
                tape.append((char) (number >>> 8 * k & 255));
            }
        }
        return tape.length();
    }

    boolean end(int n) {
        if (n < 0 || n > tape.length()) {
            return false;
        }
        tape.setLength(n);
        return true;
    }

    int text() {
        Text text = new Text(tape.toString());
        tape.setLength(0);
        try {
            state = text.read();
            history.clear();
            faultKind = 0;
            return text.lines;
        } catch (Fault fault) {
            faultKind = fault.kind;
            return -1 - fault.place;
        }
    }

    int fault() {
        return faultKind;
    }

    int now(int what) {
        int[] told = {state.now, state.carry, state.rates.size(), state.items.size(), state.losses.size(),
            (int) state.items.stream().filter(i -> open(i) == 0).count(), history.size(), tape.length()};
        return what < 0 || what >= told.length ? -1 : told[what];
    }

    private int open(Item item) {
        int open = 0;
        for (int t = state.now + 1; t < 40; t++) {
            open += item.part(t);
        }
        return open;
    }

    int item(int number, int what) {
        if (number < 0 || number >= state.items.size()) {
            throw new NoSuchElementException();
        }
        Item item = state.items.get(number);
        int[] told = {item.office, item.taxable ? 1 : 0, item.sum, item.first, item.last, open(item)};
        if (what >= 0 && what < told.length) {
            return told[what];
        }
        if (what >= 100 && what <= 139) {
            return item.part(what - 100);
        }
        throw new NoSuchElementException();
    }

    int loss(int number, int what) {
        if (number < 0 || number >= state.losses.size() || what < 0 || what > 3) {
            throw new NoSuchElementException();
        }
        Loss loss = state.losses.get(number);
        return new int[] {loss.office, loss.sum, loss.last, loss.left}[what];
    }

    private boolean isOffice(int office) {
        return office >= 0 && office < state.rates.size();
    }

    int rate(int office, int year) {
        return isOffice(office) && year >= 0 && year < 40 ? state.rates.get(office)[year] : -1;
    }

    private List<Year> years(int office, int moreYear, int more) {
        List<Year> years = new ArrayList<>();
        List<Loss> there = new ArrayList<>();
        for (Loss loss : state.losses) {
            if (loss.office == office) {
                there.add(new Loss(office, loss.sum, loss.last, loss.left));
            }
        }
        for (int t = state.now + 1; t < 40; t++) {
            Year year = new Year();
            year.t = t;
            for (Item item : state.items) {
                if (item.office == office) {
                    year.taxed += item.taxable ? item.part(t) : 0;
                    year.deducted += item.taxable ? 0 : item.part(t);
                }
            }
            year.cover = year.taxed + state.profits.get(office)[t] + (t == moreYear ? more : 0);
            year.usedDeducted = Math.min(year.cover, year.deducted);
            int rest = year.cover - year.usedDeducted;
            List<Loss> inOrder = new ArrayList<>(there);
            inOrder.sort(Comparator.comparingInt(l -> l.last));
            for (Loss loss : inOrder) {
                if (loss.last >= t) {
                    int used = Math.min(rest, loss.left);
                    loss.left -= used;
                    rest -= used;
                    year.usedLosses += used;
                }
            }
            int further = year.deducted - year.usedDeducted;
            there.add(new Loss(office, further, t + state.carry, further));
            for (Loss loss : there) {
                year.behind += loss.last > t ? loss.left : 0;
            }
            years.add(year);
        }
        return years;
    }

    private static int liability(List<Year> years, int[] rates) {
        return years.stream().mapToInt(y -> (int) ((long) y.taxed * rates[y.t] / 1000)).sum();
    }

    private static int asset(List<Year> years, int[] rates) {
        return years.stream().mapToInt(y -> (int) ((long) y.used() * rates[y.t] / 1000)).sum();
    }

    private int unrecognised(int office, List<Year> years) {
        int sum = 0;
        for (Item item : state.items) {
            sum += item.office == office && !item.taxable ? open(item) : 0;
        }
        for (Loss loss : state.losses) {
            sum += loss.office == office && loss.last > state.now ? loss.left : 0;
        }
        for (Year year : years) {
            sum -= year.used();
        }
        return sum;
    }

    int covered(int office, int year, int what) {
        if (!isOffice(office) || year <= state.now || year > 39 || what < 0 || what > 5) {
            return -1;
        }
        Year y = years(office, -1, 0).get(year - state.now - 1);
        return new int[] {y.taxed, y.cover, y.deducted, y.usedDeducted, y.usedLosses, y.behind}[what];
    }

    int balance(int office, int what) {
        if (office == -1 && what >= 0 && what <= 4) {
            int sum = 0;
            for (int o = 0; o < state.rates.size(); o++) {
                int net = balance(o, 3);
                sum += what < 3 ? balance(o, what) : what == 3 ? Math.max(0, net) : Math.max(0, -net);
            }
            return sum;
        }
        if (!isOffice(office) || what < 0 || what > 3) {
            return NO_SUM;
        }
        List<Year> years = years(office, -1, 0);
        int[] rates = state.rates.get(office);
        int l = liability(years, rates);
        int a = asset(years, rates);
        return new int[] {l, a, unrecognised(office, years), a - l}[what];
    }

    int closing(int office, int year, int what) {
        if (!isOffice(office) || year < 0 || year >= state.closings.size() || what < 0 || what > 6) {
            return NO_SUM;
        }
        return state.closings.get(year).get(office).sums[what];
    }

    private boolean enactable(int office, int year, int rate) {
        return isOffice(office) && year >= state.now && year < 40 && rate >= 0 && rate <= 900;
    }

    int would(int office, int year, int rate) {
        if (!enactable(office, year, rate)) {
            return NO_SUM;
        }
        int[] rates = state.rates.get(office).clone();
        for (int t = year; t < 40; t++) {
            rates[t] = rate;
        }
        List<Year> years = years(office, -1, 0);
        return asset(years, rates) - liability(years, rates);
    }

    /** All that could be USED: no PROFIT more than that changes anything. */
    int claims(int office) {
        int sum = 0;
        for (Item item : state.items) {
            sum += item.office == office && !item.taxable ? item.sum : 0;
        }
        for (Loss loss : state.losses) {
            sum += loss.office == office ? loss.left : 0;
        }
        return sum;
    }

    int needs(int office, int year) {
        if (!isOffice(office) || year <= state.now || year > 39) {
            return -1;
        }
        int most = Math.min(99999, claims(office));
        for (int more = 0; more <= most; more++) {
            if (unrecognised(office, years(office, year, more)) == 0) {
                return more;
            }
        }
        return -2;
    }

    private void act() {
        history.add(state.copy());
        if (history.size() > 10) {
            history.remove(0);
        }
    }

    int enact(int office, int year, int rate) {
        if (!enactable(office, year, rate)) {
            return -1;
        }
        act();
        int was = state.rates.get(office)[year];
        for (int t = year; t < 40; t++) {
            state.rates.get(office)[t] = rate;
        }
        return was;
    }

    int expect(int office, int year, int sum) {
        if (!isOffice(office) || year < state.now || year > 39 || sum < 0 || sum > 99999) {
            return -1;
        }
        act();
        int was = state.profits.get(office)[year];
        state.profits.get(office)[year] = sum;
        return was;
    }

    int arises(int office, boolean taxable, int sum, int first, int last) {
        if (!isOffice(office) || sum < 1 || sum > 99999 || first <= state.now || first > 39 || last < first || last > 39) {
            return -1;
        }
        if (state.items.size() == 30) {
            return -2;
        }
        act();
        state.items.add(newItem(office, taxable, sum, first, last));
        return state.items.size() - 1;
    }

    private static Item newItem(int office, boolean taxable, int sum, int first, int last) {
        Item item = new Item();
        item.office = office;
        item.taxable = taxable;
        item.sum = sum;
        item.first = first;
        item.last = last;
        return item;
    }

    int settle(int number) {
        if (number < 0 || number >= state.items.size() || state.now == 39 || open(state.items.get(number)) == 0) {
            return -1;
        }
        act();
        Item item = state.items.get(number);
        item.sum = open(item);
        item.first = state.now + 1;
        item.last = state.now + 1;
        return item.sum;
    }

    int loses(int office, int sum, int last) {
        if (!isOffice(office) || sum < 1 || sum > 99999 || last <= state.now || last > 39) {
            return -1;
        }
        if (state.losses.size() == 10) {
            return -2;
        }
        act();
        state.losses.add(new Loss(office, sum, last, sum));
        return state.losses.size() - 1;
    }

    int yearEnd() {
        if (state.now == 39) {
            return -1;
        }
        act();
        List<Closing> row = new ArrayList<>();
        for (int office = 0; office < state.rates.size(); office++) {
            Closing closing = new Closing();
            closing.sums[6] = closeLosses(office);
            row.add(closing);
        }
        for (int office = 0; office < state.rates.size(); office++) {
            Closing closing = row.get(office);
            int[] rates = state.rates.get(office);
            closing.years = years(office, -1, 0);
            closing.sums[0] = liability(closing.years, rates);
            closing.sums[1] = asset(closing.years, rates);
            closing.sums[2] = unrecognised(office, closing.years);
            closing.sums[3] = closing.net();
            if (state.now > 0) {
                Closing ahead = state.closings.get(state.now - 1).get(office);
                closing.sums[3] -= ahead.net();
                closing.sums[4] = asset(ahead.years, rates) - liability(ahead.years, rates) - ahead.net();
            }
            closing.sums[5] = closing.sums[3] - closing.sums[4];
        }
        state.closings.add(row);
        state.now++;
        return state.now;
    }

    private int closeLosses(int office) {
        int income = state.profits.get(office)[state.now];
        for (Item item : state.items) {
            if (item.office == office) {
                income += item.taxable ? item.part(state.now) : -item.part(state.now);
            }
        }
        if (income < 0 && state.carry > 0 && state.losses.size() < 10) {
            state.losses.add(new Loss(office, -income, Math.min(39, state.now + state.carry), -income));
        }
        int rest = Math.max(0, income);
        List<Loss> inOrder = new ArrayList<>(state.losses);
        inOrder.sort(Comparator.comparingInt(l -> l.last));
        for (Loss loss : inOrder) {
            if (loss.office == office && loss.last >= state.now) {
                int used = Math.min(rest, loss.left);
                loss.left -= used;
                rest -= used;
            }
        }
        return income;
    }

    int undo() {
        if (history.isEmpty()) {
            return -1;
        }
        state = history.remove(history.size() - 1);
        return history.size();
    }

    /** A TEXT read by a list of all its tokens. */
    private static final class Text {
        private static final Pattern PIECES = Pattern.compile("[a-z0-9]+|[ \n]|[^a-z0-9 \n]", Pattern.DOTALL);
        private final List<String> tokens = new ArrayList<>();
        private final List<Integer> places = new ArrayList<>();
        private int at;
        int lines;

        Text(String bytes) {
            Matcher pieces = PIECES.matcher(bytes);
            while (pieces.find()) {
                boolean blank = pieces.group().equals(" ") || pieces.group().equals("\n");
                if (!blank && (pieces.start() < 600 || bytes.length() <= 600)) {
                    tokens.add(pieces.group());
                    places.add(pieces.start());
                }
            }
            tokens.add(bytes.length() > 600 ? "?" : "");
            places.add(Math.min(600, bytes.length()));
        }

        private String token() {
            return tokens.get(at);
        }

        private int number(int least, int most) throws Fault {
            if (!token().matches("[0-9]{1,5}")) {
                throw new Fault(1, places.get(at));
            }
            int value = Integer.parseInt(token());
            if (value < least || value > most) {
                throw new Fault(2, places.get(at));
            }
            at++;
            return value;
        }

        private void exactly(String want) throws Fault {
            if (!token().equals(want)) {
                throw new Fault(1, places.get(at));
            }
            at++;
        }

        private void semicolon() throws Fault {
            exactly(";");
            lines++;
        }

        State read() throws Fault {
            State state = new State();
            exactly("carry");
            state.carry = number(0, 20);
            semicolon();
            do {
                if (state.rates.size() == 3) {
                    throw new Fault(3, places.get(at));
                }
                exactly("office");
                int[] rates = new int[40];
                java.util.Arrays.fill(rates, number(0, 900));
                state.rates.add(rates);
                state.profits.add(new int[40]);
                semicolon();
            } while (token().equals("office"));
            while (!token().isEmpty()) {
                line(state);
            }
            return state;
        }

        private void line(State state) throws Fault {
            int word = at;
            if (!token().matches("rate|profit|taxable|deductible|loss")) {
                throw new Fault(1, places.get(at));
            }
            boolean item = token().matches("taxable|deductible");
            boolean loss = token().equals("loss");
            if (item && state.items.size() == 16 || loss && state.losses.size() == 10) {
                throw new Fault(3, places.get(at));
            }
            at++;
            int office = number(0, state.rates.size() - 1);
            if (item) {
                int sum = number(1, 99999);
                int first = number(1, 39);
                int last = number(first, 39);
                state.items.add(newItem(office, tokens.get(word).equals("taxable"), sum, first, last));
            } else if (loss) {
                int sum = number(1, 99999);
                state.losses.add(new Loss(office, sum, number(1, 39), sum));
            } else {
                int year = number(0, 39);
                if (tokens.get(word).equals("profit")) {
                    state.profits.get(office)[year] = number(1, 99999);
                } else {
                    int rate = number(0, 900);
                    for (int t = year; t < 40; t++) {
                        state.rates.get(office)[t] = rate;
                    }
                }
            }
            semicolon();
        }
    }
}
