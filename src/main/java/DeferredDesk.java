import java.util.NoSuchElementException;

/** A deferred tax desk; the document that it keeps to numbers its promises from 1 to 21. */
public final class DeferredDesk {
    public static final int NONE = -1;

    private static final int NO_SUCH_SUM = NONE - 99999999;
    private static final int TOO_MANY = -2;
    private static final int BY_NO_PROFIT = -2;
    private static final int LAST_YEAR = 39;
    private static final int YEARS = LAST_YEAR + 1;
    private static final int MOST_OFFICES = 3;
    private static final int MOST_CARRY = 20;
    private static final int MOST_RATE = 900;
    private static final int MOST_SUM = 99999;
    private static final int MOST_ITEMS = 30;
    private static final int MOST_LOSSES = 10;
    private static final int PART_OF_YEAR_0 = 100;

    private final Reader reader = new Reader();
    private final Tape tape = reader.tape;
    private final Cover cover = new Cover();
    private final Acts acts = new Acts();
    private final Closing[] closings = new Closing[LAST_YEAR * MOST_OFFICES];
    private Book book = new Book();

    public DeferredDesk() {
    }

    public int feed(int a, int b, int c, int d, int e) {
        if (tape.size + Tape.FED > Tape.MOST) {
            return NONE;
        }
        tape.add(a);
        tape.add(b);
        tape.add(c);
        tape.add(d);
        tape.add(e);
        return tape.size;
    }

    public boolean end(int n) {
        if (n < 0 || n > tape.size) {
            return false;
        }
        tape.size = n;
        return true;
    }

    public int text() {
        boolean read = reader.reads();
        tape.size = 0;
        if (!read) {
            return -1 - reader.place;
        }
        book = reader.exchange(book);
        acts.forget();
        return reader.lines;
    }

    public int fault() {
        return reader.refused;
    }

    public int now(int what) {
        switch (what) {
            case 0:
                return book.year;
            case 1:
                return book.carry;
            case 2:
                return book.offices;
            case 3:
                return book.itemCount;
            case 4:
                return book.lossCount;
            case 5:
                return book.itemsWithNothingOpen();
            case 6:
                return acts.count;
            case 7:
                return tape.size;
            default:
                return NONE;
        }
    }

    public int item(int item, int what) throws NoSuchElementException {
        if (!book.hasItem(item)) {
            throw new NoSuchElementException("no such item");
        }
        if (what >= 0 && what < Book.ITEM_SIZE) {
            return book.items[item * Book.ITEM_SIZE + what];
        }
        if (what == Book.ITEM_SIZE) {
            return book.openOf(item);
        }
        if (what < PART_OF_YEAR_0 || what > PART_OF_YEAR_0 + LAST_YEAR) {
            throw new NoSuchElementException("nothing of that kind is told of an item");
        }
        return book.partOf(item, what - PART_OF_YEAR_0);
    }

    public int loss(int loss, int what) throws NoSuchElementException {
        if (!book.hasLoss(loss)) {
            throw new NoSuchElementException("no such loss");
        }
        if (what < 0 || what >= Book.LOSS_SIZE) {
            throw new NoSuchElementException("nothing of that kind is told of a loss");
        }
        return book.losses[loss * Book.LOSS_SIZE + what];
    }

    public int rate(int office, int year) {
        if (!book.hasOffice(office) || year < 0 || year > LAST_YEAR) {
            return NONE;
        }
        return book.rates[office * YEARS + year];
    }

    public int covered(int office, int year, int what) {
        if (!isYearToCome(office, year)) {
            return NONE;
        }
        cover.workOut(book, office);
        switch (what) {
            case 0:
                return cover.taxed[year];
            case 1:
                return cover.covering[year];
            case 2:
                return cover.deducted[year];
            case 3:
                return cover.usedOfDeducted[year];
            case 4:
                return cover.used[year] - cover.usedOfDeducted[year];
            case 5:
                return cover.behind[year];
            default:
                return NONE;
        }
    }

    public int balance(int office, int what) {
        if (office == NONE && what >= 0 && what <= 4) {
            return balanceOfAll(what);
        }
        if (!book.hasOffice(office) || what < 0 || what > 3) {
            return NO_SUCH_SUM;
        }
        return balanceOfOne(office, what);
    }

    public int closing(int office, int year, int what) {
        if (!book.hasOffice(office) || year < 0 || year >= book.year || year >= LAST_YEAR) {
            return NO_SUCH_SUM;
        }
        Closing kept = closings[year * MOST_OFFICES + office];
        if (kept == null || what < 0 || what >= Closing.SUMS) {
            return NO_SUCH_SUM;
        }
        return kept.sums[what];
    }

    public int would(int office, int year, int rate) {
        if (!mayBeEnacted(office, year, rate)) {
            return NO_SUCH_SUM;
        }
        cover.workOut(book, office);
        cover.supposeRate(year, rate);
        return cover.net();
    }

    public int needs(int office, int year) {
        if (!isYearToCome(office, year)) {
            return NONE;
        }
        cover.workOut(book, office);
        if (cover.unrecognised() == 0) {
            return 0;
        }
        return leastProfitMore(office, year);
    }

    public int enact(int office, int year, int rate) {
        if (!mayBeEnacted(office, year, rate)) {
            return NONE;
        }
        acts.keep(book);
        int former = book.rates[office * YEARS + year];
        book.setRate(office, year, rate);
        return former;
    }

    public int expect(int office, int year, int sum) {
        if (!isYearNotClosed(office, year) || sum < 0 || sum > MOST_SUM) {
            return NONE;
        }
        acts.keep(book);
        int former = book.profits[office * YEARS + year];
        book.profits[office * YEARS + year] = sum;
        return former;
    }

    public int arises(int office, boolean taxable, int sum, int first, int last) {
        if (!isYearToCome(office, first) || !isSum(sum) || last < first || last > LAST_YEAR) {
            return NONE;
        }
        if (book.itemCount >= MOST_ITEMS) {
            return TOO_MANY;
        }
        acts.keep(book);
        return book.addItem(office, taxable, sum, first, last);
    }

    public int settle(int item) {
        if (!book.hasItem(item) || book.year >= LAST_YEAR) {
            return NONE;
        }
        int open = book.openOf(item);
        if (open == 0) {
            return NONE;
        }
        acts.keep(book);
        book.bringForward(item, open);
        return open;
    }

    public int loses(int office, int sum, int last) {
        if (!isYearToCome(office, last) || !isSum(sum)) {
            return NONE;
        }
        if (book.lossCount >= MOST_LOSSES) {
            return TOO_MANY;
        }
        acts.keep(book);
        return book.addLoss(office, sum, last);
    }

    public int yearEnd() {
        if (book.year >= LAST_YEAR) {
            return NONE;
        }
        acts.keep(book);
        // Every office's losses come first: they share the limit of LOSSES.
        for (int office = 0; office < book.offices; office++) {
            int income = book.incomeOf(office);
            book.settleIncome(office, income);
            closingToFill(office).sums[Closing.INCOME] = income;
        }
        for (int office = 0; office < book.offices; office++) {
            cover.workOut(book, office);
            closingToFill(office).fill(cover, closingAhead(office));
        }
        book.year++;
        return book.year;
    }

    public int undo() {
        if (acts.count == 0) {
            return NONE;
        }
        acts.takeBack(book);
        return acts.count;
    }

    private static boolean isSum(int sum) {
        return sum >= 1 && sum <= MOST_SUM;
    }

    private boolean isYearToCome(int office, int year) {
        return book.hasOffice(office) && year > book.year && year <= LAST_YEAR;
    }

    private boolean isYearNotClosed(int office, int year) {
        return book.hasOffice(office) && year >= book.year && year <= LAST_YEAR;
    }

    private boolean mayBeEnacted(int office, int year, int rate) {
        return isYearNotClosed(office, year) && rate >= 0 && rate <= MOST_RATE;
    }

    private int balanceOfOne(int office, int what) {
        cover.workOut(book, office);
        switch (what) {
            case 0:
                return cover.liability();
            case 1:
                return cover.asset();
            case 2:
                return cover.unrecognised();
            default:
                return cover.net();
        }
    }

    private int balanceOfAll(int what) {
        int sum = 0;
        for (int office = 0; office < book.offices; office++) {
            int one = balanceOfOne(office, Math.min(what, 3));
            if (what < 3 || what == 3 && one > 0) {
                sum += one;
            } else if (what == 4 && one < 0) {
                sum -= one;
            }
        }
        return sum;
    }

    /**
     * Halving finds the least, for more PROFIT never raises UNRECOGNISED: it only takes away
     * from the losses that later years find.
     */
    private int leastProfitMore(int office, int year) {
        if (!isEnough(office, year, MOST_SUM)) {
            return BY_NO_PROFIT;
        }
        int tooLittle = 0;
        int enough = MOST_SUM;
        for (int k = 0; k < 32 && enough - tooLittle > 1; k++) {
            int middle = (tooLittle + enough) / 2;
            if (isEnough(office, year, middle)) {
                enough = middle;
            } else {
                tooLittle = middle;
            }
        }
        return enough;
    }

    private boolean isEnough(int office, int year, int more) {
        cover.spread(book, office, year, more);
        return cover.unrecognised() == 0;
    }

    private Closing closingToFill(int office) {
        int place = book.year * MOST_OFFICES + office;
        if (closings[place] == null) {
            closings[place] = new Closing();
        }
        return closings[place];
    }

    private Closing closingAhead(int office) {
        return book.year == 0 ? null : closings[(book.year - 1) * MOST_OFFICES + office];
    }

    /** The bytes that were fed and not read yet. */
    private static final class Tape {
        static final int MOST = 640;
        static final int FED = 20;

        final byte[] bytes = new byte[MOST];
        int size;

        void add(int number) {
            for (int shift = 24; shift >= 0 && size < MOST; shift -= 8) {
                bytes[size] = (byte) (number >> shift);
                size++;
            }
        }

        int at(int place) {
            return place < 0 || place >= size ? NONE : bytes[place] & 255;
        }
    }

    /** What stands at one time, but for the closings: those of years below its year hold for it. */
    private static final class Book {
        static final int ITEM_SIZE = 5;
        static final int LOSS_SIZE = 4;
        private static final int OFFICE = 0;
        private static final int ITEM_TAXABLE = 1;
        private static final int ITEM_SUM = 2;
        private static final int ITEM_FIRST = 3;
        private static final int ITEM_LAST = 4;
        private static final int LOSS_SUM = 1;
        private static final int LOSS_LAST = 2;
        private static final int LOSS_LEFT = 3;

        final int[] rates = new int[MOST_OFFICES * YEARS];
        final int[] profits = new int[MOST_OFFICES * YEARS];
        final int[] items = new int[MOST_ITEMS * ITEM_SIZE];
        final int[] losses = new int[MOST_LOSSES * LOSS_SIZE];
        int year;
        int carry;
        int offices = 1;
        int itemCount;
        int lossCount;

        void clear() {
            for (int k = 0; k < profits.length; k++) {
                profits[k] = 0;
            }
            year = 0;
            carry = 0;
            offices = 0;
            itemCount = 0;
            lossCount = 0;
        }

        void copyFrom(Book other) {
            System.arraycopy(other.rates, 0, rates, 0, rates.length);
            System.arraycopy(other.profits, 0, profits, 0, profits.length);
            System.arraycopy(other.items, 0, items, 0, items.length);
            System.arraycopy(other.losses, 0, losses, 0, losses.length);
            year = other.year;
            carry = other.carry;
            offices = other.offices;
            itemCount = other.itemCount;
            lossCount = other.lossCount;
        }

        boolean hasOffice(int office) {
            return office >= 0 && office < offices;
        }

        boolean hasItem(int item) {
            return item >= 0 && item < itemCount;
        }

        boolean hasLoss(int loss) {
            return loss >= 0 && loss < lossCount;
        }

        void setRate(int office, int from, int rate) {
            for (int t = from; t <= LAST_YEAR; t++) {
                rates[office * YEARS + t] = rate;
            }
        }

        int addItem(int office, boolean taxable, int sum, int first, int last) {
            int row = itemCount * ITEM_SIZE;
            items[row + OFFICE] = office;
            items[row + ITEM_TAXABLE] = taxable ? 1 : 0;
            items[row + ITEM_SUM] = sum;
            items[row + ITEM_FIRST] = first;
            items[row + ITEM_LAST] = last;
            itemCount++;
            return itemCount - 1;
        }

        int addLoss(int office, int sum, int last) {
            int row = lossCount * LOSS_SIZE;
            losses[row + OFFICE] = office;
            losses[row + LOSS_SUM] = sum;
            losses[row + LOSS_LAST] = last;
            losses[row + LOSS_LEFT] = sum;
            lossCount++;
            return lossCount - 1;
        }

        void bringForward(int item, int open) {
            int row = item * ITEM_SIZE;
            items[row + ITEM_SUM] = open;
            items[row + ITEM_FIRST] = year + 1;
            items[row + ITEM_LAST] = year + 1;
        }

        boolean isItemOf(int item, int office) {
            return items[item * ITEM_SIZE + OFFICE] == office;
        }

        boolean isTaxable(int item) {
            return items[item * ITEM_SIZE + ITEM_TAXABLE] == 1;
        }

        int lastOf(int item) {
            return items[item * ITEM_SIZE + ITEM_LAST];
        }

        /** PARTS of all years up to t together. */
        private int partsUpTo(int item, int t) {
            int row = item * ITEM_SIZE;
            int first = items[row + ITEM_FIRST];
            int years = items[row + ITEM_LAST] - first + 1;
            int gone = t - first + 1;
            if (gone <= 0 || years <= 0) {
                return 0;
            }
            return gone >= years ? items[row + ITEM_SUM] : items[row + ITEM_SUM] * gone / years;
        }

        int partOf(int item, int t) {
            return partsUpTo(item, t) - partsUpTo(item, t - 1);
        }

        int openOf(int item) {
            return items[item * ITEM_SIZE + ITEM_SUM] - partsUpTo(item, year);
        }

        int itemsWithNothingOpen() {
            int count = 0;
            for (int item = 0; item < itemCount; item++) {
                if (openOf(item) == 0) {
                    count++;
                }
            }
            return count;
        }

        /** What is left of a LOSS, if it is one of that office with that last year; else 0. */
        int leftOf(int loss, int office, int last) {
            int row = loss * LOSS_SIZE;
            boolean so = losses[row + OFFICE] == office && losses[row + LOSS_LAST] == last;
            return so ? losses[row + LOSS_LEFT] : 0;
        }

        int leftWithLast(int office, int last) {
            int left = 0;
            for (int loss = 0; loss < lossCount; loss++) {
                left += leftOf(loss, office, last);
            }
            return left;
        }

        int incomeOf(int office) {
            int income = profits[office * YEARS + year];
            for (int item = 0; item < itemCount; item++) {
                if (isItemOf(item, office)) {
                    income += isTaxable(item) ? partOf(item, year) : -partOf(item, year);
                }
            }
            return income;
        }

        void settleIncome(int office, int income) {
            if (income > 0) {
                useLosses(office, income);
            } else if (income < 0 && carry > 0 && lossCount < MOST_LOSSES) {
                addLoss(office, -income, Math.min(year + carry, LAST_YEAR));
            }
        }

        private void useLosses(int office, int income) {
            int rest = income;
            for (int last = year; last <= LAST_YEAR && rest > 0; last++) {
                for (int loss = 0; loss < lossCount; loss++) {
                    int used = Math.min(rest, leftOf(loss, office, last));
                    losses[loss * LOSS_SIZE + LOSS_LEFT] -= used;
                    rest -= used;
                }
            }
        }
    }

    /** What an office's years to come cover, worked out anew by each call that asks for it. */
    private static final class Cover {
        final int[] taxed = new int[YEARS];
        final int[] covering = new int[YEARS];
        final int[] deducted = new int[YEARS];
        final int[] usedOfDeducted = new int[YEARS];
        final int[] used = new int[YEARS];
        final int[] behind = new int[YEARS];
        private final int[] rates = new int[YEARS];
        // Losses of one last year are used as one: no answer tells them apart.
        private final int[] leftByLast = new int[YEARS + MOST_CARRY];
        private int standing;
        private int unused;

        void workOut(Book book, int office) {
            for (int t = 0; t < YEARS; t++) {
                taxed[t] = 0;
                deducted[t] = 0;
                used[t] = 0;
                rates[t] = book.rates[office * YEARS + t];
            }
            for (int item = 0; item < book.itemCount; item++) {
                if (book.isItemOf(item, office)) {
                    addParts(book, item, book.isTaxable(item) ? taxed : deducted);
                }
            }
            spread(book, office, NONE, 0);
        }

        private void addParts(Book book, int item, int[] sums) {
            int last = book.lastOf(item);
            for (int t = book.year + 1; t <= last && t < YEARS; t++) {
                sums[t] += book.partOf(item, t);
            }
        }

        /** Covers the years to come, with so much more PROFIT in one of them. */
        void spread(Book book, int office, int moreYear, int more) {
            standing = 0;
            for (int last = 0; last < leftByLast.length; last++) {
                boolean told = last > book.year && last < YEARS;
                leftByLast[last] = told ? book.leftWithLast(office, last) : 0;
                standing += leftByLast[last];
            }
            unused = standing;
            for (int t = book.year + 1; t < YEARS; t++) {
                covering[t] = taxed[t] + book.profits[office * YEARS + t] + (t == moreYear ? more : 0);
                coverYear(t, t + book.carry);
                unused += deducted[t] - used[t];
            }
        }

        private void coverYear(int t, int lapse) {
            usedOfDeducted[t] = Math.min(deducted[t], covering[t]);
            int ofLosses = Math.min(standing, covering[t] - usedOfDeducted[t]);
            used[t] = usedOfDeducted[t] + ofLosses;
            useEarliest(t, ofLosses);
            int further = deducted[t] - usedOfDeducted[t];
            if (lapse < leftByLast.length) {
                leftByLast[lapse] += further;
            }
            // What lapses with t stands no more behind it.
            standing += further - ofLosses - leftByLast[t];
            behind[t] = standing;
        }

        private void useEarliest(int from, int sum) {
            int rest = sum;
            for (int last = from; last < leftByLast.length && rest > 0; last++) {
                int taken = Math.min(rest, leftByLast[last]);
                leftByLast[last] -= taken;
                rest -= taken;
            }
        }

        void supposeRate(int from, int rate) {
            for (int t = from; t < YEARS; t++) {
                rates[t] = rate;
            }
        }

        int taxOn(int[] sums) {
            long tax = 0;
            for (int t = 0; t < YEARS && t < sums.length; t++) {
                tax += (long) sums[t] * rates[t] / 1000;
            }
            return (int) tax;
        }

        int liability() {
            return taxOn(taxed);
        }

        int asset() {
            return taxOn(used);
        }

        int net() {
            return asset() - liability();
        }

        int unrecognised() {
            return unused;
        }
    }

    /** What is kept of an office when a year is closed. */
    private static final class Closing {
        static final int SUMS = 7;
        static final int INCOME = 6;
        private static final int LIABILITY = 0;
        private static final int ASSET = 1;
        private static final int UNRECOGNISED = 2;
        private static final int CHANGE = 3;
        private static final int BY_RATE = 4;
        private static final int BY_ORIGIN = 5;

        final int[] sums = new int[SUMS];
        private final int[] taxed = new int[YEARS];
        private final int[] used = new int[YEARS];

        void fill(Cover cover, Closing ahead) {
            System.arraycopy(cover.taxed, 0, taxed, 0, YEARS);
            System.arraycopy(cover.used, 0, used, 0, YEARS);
            sums[LIABILITY] = cover.liability();
            sums[ASSET] = cover.asset();
            sums[UNRECOGNISED] = cover.unrecognised();
            int netAhead = ahead == null ? 0 : ahead.net();
            int netAheadNow = ahead == null ? 0 : cover.taxOn(ahead.used) - cover.taxOn(ahead.taxed);
            sums[CHANGE] = net() - netAhead;
            sums[BY_RATE] = netAheadNow - netAhead;
            sums[BY_ORIGIN] = sums[CHANGE] - sums[BY_RATE];
        }

        private int net() {
            return sums[ASSET] - sums[LIABILITY];
        }
    }

    /** How the book stood ahead of each of the latest acts; the oldest gives way to a new one. */
    private static final class Acts {
        private static final int MOST = 10;

        private final Book[] books = new Book[MOST];
        private int next;
        int count;

        void keep(Book book) {
            if (books[next] == null) {
                books[next] = new Book();
            }
            books[next].copyFrom(book);
            next = (next + 1) % MOST;
            count = Math.min(count + 1, MOST);
        }

        void takeBack(Book book) {
            next = (next + MOST - 1) % MOST;
            count--;
            if (books[next] != null) {
                book.copyFrom(books[next]);
            }
        }

        void forget() {
            count = 0;
        }
    }

    /** The lines of a TEXT: a sign for each NUMBER that follows the WORD (see Reader.most). */
    private enum Line {
        CARRY("carry", "N"),
        OFFICE("office", "R"),
        RATE("rate", "OYR"),
        PROFIT("profit", "OYS"),
        TAXABLE("taxable", "OSFL"),
        DEDUCTIBLE("deductible", "OSFL"),
        LOSS("loss", "OSF");

        private static final Line[] ALL = values();

        final String word;
        final String slots;

        Line(String word, String slots) {
            this.word = word;
            this.slots = slots;
        }
    }

    /** Reads the tape as a TEXT into a book that is not in use; stops at the first FAULT. */
    private static final class Reader {
        private static final int MOST_BYTES = 600;
        private static final int MOST_TOLD_ITEMS = 16;
        private static final int MOST_DIGITS = 5;
        private static final int CANNOT_COME = 1;
        private static final int NOT_AS_TOLD = 2;
        private static final int ONE_MORE = 3;
        private static final int NO_TOKEN = 0;
        private static final int END = 1;
        private static final int WORD = 2;
        private static final int NUMBER = 3;
        private static final int SEMICOLON = 4;

        final Tape tape = new Tape();
        private final int[] numbers = new int[4];
        private Book book = new Book();
        private int behind;
        private int kind;
        private int value;
        int place;
        int lines;
        int refused;

        /** Gives the book that was read for one that is not in use any more. */
        Book exchange(Book former) {
            Book read = book;
            book = former;
            return read;
        }

        boolean reads() {
            book.clear();
            behind = 0;
            lines = 0;
            refused = 0;
            for (int k = 0; k <= Tape.MOST; k++) {
                advance();
                if (kind == END && lines >= 2) {
                    return true;
                }
                Line line = lineThatComes();
                if (line == null) {
                    return refuse(CANNOT_COME);
                }
                if (isOneMore(line)) {
                    return refuse(ONE_MORE);
                }
                if (!readsNumbers(line.slots)) {
                    return false;
                }
                enter(line);
                lines++;
            }
            return refuse(CANNOT_COME);
        }

        private boolean refuse(int fault) {
            refused = fault;
            return false;
        }

        private Line lineThatComes() {
            if (kind != WORD) {
                return null;
            }
            for (int k = 0; k < Line.ALL.length; k++) {
                if (isWord(Line.ALL[k].word)) {
                    return mayCome(Line.ALL[k]) ? Line.ALL[k] : null;
                }
            }
            return null;
        }

        private boolean isWord(String word) {
            if (word.length() != behind - place) {
                return false;
            }
            for (int k = 0; k < word.length(); k++) {
                if (word.charAt(k) != tape.at(place + k)) {
                    return false;
                }
            }
            return true;
        }

        private boolean mayCome(Line line) {
            if (line == Line.CARRY) {
                return lines == 0;
            }
            if (line == Line.OFFICE) {
                return lines == 1 + book.offices;
            }
            return lines >= 2;
        }

        private boolean isOneMore(Line line) {
            switch (line) {
                case OFFICE:
                    return book.offices >= MOST_OFFICES;
                case TAXABLE:
                case DEDUCTIBLE:
                    return book.itemCount >= MOST_TOLD_ITEMS;
                case LOSS:
                    return book.lossCount >= MOST_LOSSES;
                default:
                    return false;
            }
        }

        private boolean readsNumbers(String slots) {
            for (int k = 0; k < slots.length() && k < numbers.length; k++) {
                advance();
                if (kind != NUMBER) {
                    return refuse(CANNOT_COME);
                }
                if (value < least(slots.charAt(k)) || value > most(slots.charAt(k))) {
                    return refuse(NOT_AS_TOLD);
                }
                numbers[k] = value;
            }
            advance();
            return kind == SEMICOLON || refuse(CANNOT_COME);
        }

        private int least(char slot) {
            switch (slot) {
                case 'S':
                case 'F':
                    return 1;
                case 'L':
                    // FIRST stands just ahead of the LAST of an ITEM.
                    return numbers[2];
                default:
                    return 0;
            }
        }

        private int most(char slot) {
            switch (slot) {
                case 'N':
                    return MOST_CARRY;
                case 'R':
                    return MOST_RATE;
                case 'O':
                    return book.offices - 1;
                case 'S':
                    return MOST_SUM;
                default:
                    return LAST_YEAR;
            }
        }

        private void enter(Line line) {
            switch (line) {
                case CARRY:
                    book.carry = numbers[0];
                    break;
                case OFFICE:
                    book.setRate(book.offices, 0, numbers[0]);
                    book.offices++;
                    break;
                case RATE:
                    book.setRate(numbers[0], numbers[1], numbers[2]);
                    break;
                case PROFIT:
                    book.profits[numbers[0] * YEARS + numbers[1]] = numbers[2];
                    break;
                case LOSS:
                    book.addLoss(numbers[0], numbers[1], numbers[2]);
                    break;
                default:
                    book.addItem(numbers[0], line == Line.TAXABLE, numbers[1], numbers[2], numbers[3]);
            }
        }

        /** Goes on to the next TOKEN. */
        private void advance() {
            place = behind;
            while (place < tape.size && isBlank(tape.at(place))) {
                place++;
            }
            behind = place;
            if (place >= MOST_BYTES && tape.size > MOST_BYTES) {
                place = MOST_BYTES;
                kind = NO_TOKEN;
            } else if (place >= tape.size) {
                kind = END;
            } else if (tape.at(place) == ';') {
                kind = SEMICOLON;
                behind = place + 1;
            } else {
                takeRun();
            }
        }

        private void takeRun() {
            int letters = 0;
            int digits = 0;
            value = 0;
            while (behind < tape.size && isOfRun(tape.at(behind))) {
                if (isDigit(tape.at(behind))) {
                    digits++;
                    value = digits > MOST_DIGITS ? 0 : value * 10 + tape.at(behind) - '0';
                } else {
                    letters++;
                }
                behind++;
            }
            if (letters > 0 && digits == 0) {
                kind = WORD;
            } else if (letters == 0 && digits > 0 && digits <= MOST_DIGITS) {
                kind = NUMBER;
            } else {
                kind = NO_TOKEN;
            }
        }

        private static boolean isBlank(int sign) {
            return sign == 32 || sign == 10;
        }

        private static boolean isDigit(int sign) {
            return sign >= '0' && sign <= '9';
        }

        private static boolean isOfRun(int sign) {
            return isDigit(sign) || sign >= 'a' && sign <= 'z';
        }
    }
}
