/**
 * Slabs cut from sheets by patterns. The promises that the methods name are those of the
 * document (shared/DOC.md).
 */
public final class PatternColumns {
    private static final int MOST_ORDERS = 5;
    private static final int MOST_PIECES = 6;
    private static final int MOST_WIDTH = 1000;
    private static final int FIRST_SHEET_WIDTH = 100;
    private static final int MOST_PRICE = 1000;
    private static final int MOST_STEPS = 100000;
    private static final int MOST_KEPT = 40;
    private static final int LAST_DAY = 9999;

    /** Every sheet of a design has a piece, so no design has more sheets than there can be pieces. */
    private static final int MOST_SHEETS = MOST_ORDERS * MOST_PIECES;
    /** 0 to 6 pieces of each of five orders: 7 to the fifth. */
    private static final int MOST_PATTERNS = 16807;
    /** Every turn of designing takes a step or takes one back. */
    private static final int MOST_TURNS = 2 * MOST_STEPS + 2;
    private static final int NONE = -1;

    /** What kept() tells behind the pieces of the orders. */
    private static final int WHAT_TIMES = MOST_ORDERS;
    private static final int WHAT_DAY = MOST_ORDERS + 1;

    private final Slabs slabs;
    private final DearestPattern dearest;
    private final Designing designing;
    private final Store store;

    /** Promise 1. */
    public PatternColumns() {
        slabs = new Slabs();
        dearest = new DearestPattern(slabs);
        designing = new Designing(slabs);
        store = new Store();
    }

    /** Promise 2. */
    public void sheet(int width) throws IllegalArgumentException {
        if (width < 1 || width > MOST_WIDTH) {
            throw new IllegalArgumentException("no such width of sheets");
        }
        slabs.sheetWidth = width;
        forgetAnswers();
    }

    /** Promise 3. */
    public int order(int width, int pieces) throws IllegalStateException, IllegalArgumentException {
        if (slabs.count >= MOST_ORDERS) {
            throw new IllegalStateException("there are five orders");
        }
        if (width < 1 || width > MOST_WIDTH) {
            throw new IllegalArgumentException("no such width of pieces");
        }
        if (pieces < 0 || pieces > MOST_PIECES) {
            throw new IllegalArgumentException("no such number of pieces");
        }
        int number = slabs.add(width, pieces);
        forgetAnswers();
        return number;
    }

    /** Promise 4. */
    public void pieces(int order, int pieces) throws IndexOutOfBoundsException, IllegalArgumentException {
        if (!slabs.has(order)) {
            throw new IndexOutOfBoundsException("no such order");
        }
        if (pieces < 0 || pieces > MOST_PIECES) {
            throw new IllegalArgumentException("no such number of pieces");
        }
        slabs.numbers[order] = pieces;
        forgetAnswers();
    }

    /** Promise 5: a design stays when a price changes, since prices have no part in it. */
    public void price(int order, int price) throws IndexOutOfBoundsException, IllegalArgumentException {
        if (!slabs.has(order)) {
            throw new IndexOutOfBoundsException("no such order");
        }
        if (price < 0 || price > MOST_PRICE) {
            throw new IllegalArgumentException("no such price");
        }
        slabs.prices[order] = price;
        dearest.forget();
    }

    /** Promise 6. */
    public int column() {
        return dearest.priceSum();
    }

    /** Promise 7. */
    public int columnOf(int order) throws IndexOutOfBoundsException {
        if (!slabs.has(order)) {
            throw new IndexOutOfBoundsException("no such order");
        }
        return dearest.piecesOf(order);
    }

    /** Promise 8. */
    public int bound() {
        return boundByPrices();
    }

    /** Promise 9. */
    public int design(int steps) throws IllegalArgumentException, UnsupportedOperationException {
        if (steps < 0 || steps > MOST_STEPS) {
            throw new IllegalArgumentException("no such number of steps");
        }
        if (slabs.somePieceIsTooWide()) {
            throw new UnsupportedOperationException("a piece is wider than a sheet");
        }
        designing.run(steps);
        return designing.bestSheets;
    }

    /** Promise 10. */
    public int designed(int what) throws IndexOutOfBoundsException, IllegalStateException {
        if (what < 0 || what > 1) {
            throw new IndexOutOfBoundsException("no such what");
        }
        if (!designing.hasRun) {
            throw new IllegalStateException("nothing was designed");
        }
        if (what == 0) {
            return designing.spent ? 1 : 0;
        }
        return designing.steps;
    }

    /** Promise 11. */
    public int gap() throws IllegalStateException {
        requireDesign();
        int byWidths = slabs.sheetsFor(slabs.widthOfAll());
        return designing.bestSheets - Math.max(byWidths, boundByPrices());
    }

    /** Promise 12. */
    public int cut(int sheet, int order) throws IndexOutOfBoundsException, IllegalStateException {
        requireDesign();
        requireSheet(sheet);
        if (!slabs.has(order)) {
            throw new IndexOutOfBoundsException("no such order");
        }
        return designing.best[sheet][order];
    }

    /** Promise 13. */
    public int over(int sheet) throws IndexOutOfBoundsException, IllegalStateException {
        requireDesign();
        requireSheet(sheet);
        return slabs.sheetWidth - slabs.widthOf(designing.best[sheet]);
    }

    /** Promise 14. */
    public int keep(int sheet, int day) throws IndexOutOfBoundsException, IllegalStateException,
            IllegalArgumentException, UnsupportedOperationException {
        requireDesign();
        requireSheet(sheet);
        if (day < 0 || day > LAST_DAY) {
            throw new IllegalArgumentException("no such day");
        }
        int[] pattern = designing.best[sheet];
        int at = store.find(pattern);
        if (at != NONE) {
            store.countAgain(at, day);
            return at;
        }
        if (store.count >= MOST_KEPT) {
            throw new UnsupportedOperationException("forty others are kept");
        }
        return store.add(pattern, day);
    }

    /** Promise 15. */
    public int kept(int i, int what) throws IndexOutOfBoundsException {
        if (i < 0 || i >= store.count) {
            throw new IndexOutOfBoundsException("no such kept pattern");
        }
        if (what < 0 || what > WHAT_DAY) {
            throw new IndexOutOfBoundsException("no such what");
        }
        if (what == WHAT_DAY) {
            return store.days[i];
        }
        if (what == WHAT_TIMES) {
            return store.times[i];
        }
        return store.patterns[i][what];
    }

    /** Promise 16. */
    public int fitting(int i) throws IndexOutOfBoundsException {
        if (i < 0) {
            throw new IndexOutOfBoundsException("below the first one");
        }
        int ahead = i;
        for (int at = 0; at < store.count; at++) {
            if (slabs.isPattern(store.patterns[at])) {
                if (ahead == 0) {
                    return at;
                }
                ahead--;
            }
        }
        return NONE;
    }

    private void forgetAnswers() {
        dearest.forget();
        designing.forget();
    }

    private int boundByPrices() {
        return roundedUp(slabs.priceOfAll(), dearest.priceSum());
    }

    private void requireDesign() throws IllegalStateException {
        if (designing.bestSheets == NONE) {
            throw new IllegalStateException("there is no design");
        }
    }

    private void requireSheet(int sheet) throws IndexOutOfBoundsException {
        if (sheet < 0 || sheet >= designing.bestSheets) {
            throw new IndexOutOfBoundsException("no such sheet of the design");
        }
    }

    /** The quotient of two numbers that are not below 0; over 0 it is 0, as the bound by prices wants. */
    private static int roundedUp(int sum, int over) {
        return over <= 0 ? 0 : (sum + over - 1) / over;
    }

    /** The sheets' width and the orders, and what makes a row of numbers a pattern of them. */
    private static final class Slabs {
        int sheetWidth;
        int count;
        final int[] widths;
        final int[] numbers;
        final int[] prices;

        Slabs() {
            sheetWidth = FIRST_SHEET_WIDTH;
            widths = new int[MOST_ORDERS];
            numbers = new int[MOST_ORDERS];
            prices = new int[MOST_ORDERS];
        }

        boolean has(int order) {
            return order >= 0 && order < count;
        }

        /** Adds an order behind the others; the caller has seen that there is a place for it. */
        int add(int width, int pieces) {
            int number = count;
            widths[number] = width;
            numbers[number] = pieces;
            prices[number] = 0;
            count = number + 1;
            return number;
        }

        int widthOf(int[] row) {
            return widthOfFirst(row, count);
        }

        int widthOfAll() {
            return widthOfFirst(numbers, count);
        }

        int priceOf(int[] row) {
            int sum = 0;
            for (int i = 0; i < count; i++) {
                sum += row[i] * prices[i];
            }
            return sum;
        }

        int priceOfAll() {
            return priceOf(numbers);
        }

        int sheetsFor(int width) {
            return roundedUp(width, sheetWidth);
        }

        boolean somePieceIsTooWide() {
            for (int i = 0; i < count; i++) {
                if (numbers[i] > 0 && widths[i] > sheetWidth) {
                    return true;
                }
            }
            return false;
        }

        boolean isPattern(int[] row) {
            for (int i = 0; i < count; i++) {
                if (row[i] > numbers[i]) {
                    return false;
                }
            }
            return widthOf(row) <= sheetWidth;
        }

        /** The first one of the patterns that have, of each order, not more pieces than there are. */
        void firstPattern(int[] row, int[] there) {
            fillFrom(0, row, there);
        }

        /**
         * Makes of a pattern the next one behind it that has fewer pieces of some order up to the
         * highest; the order that is needed (or NONE) keeps a piece. False: there is no such one.
         */
        boolean nextPattern(int[] row, int[] there, int highest, int needed) {
            for (int i = Math.min(highest, count - 1); i >= 0; i--) {
                int least = i == needed ? 1 : 0;
                if (row[i] > least) {
                    row[i]--;
                    fillFrom(i + 1, row, there);
                    return true;
                }
            }
            return false;
        }

        /** Behind the same beginning the first pattern has of each order in turn the most that fit. */
        private void fillFrom(int from, int[] row, int[] there) {
            int room = sheetWidth - widthOfFirst(row, from);
            for (int i = from; i < count; i++) {
                int width = widths[i];
                int fit = width <= 0 ? 0 : room / width;
                row[i] = Math.min(there[i], fit);
                room -= row[i] * width;
            }
        }

        private int widthOfFirst(int[] row, int end) {
            int sum = 0;
            for (int i = 0; i < end; i++) {
                sum += row[i] * widths[i];
            }
            return sum;
        }
    }

    /** The column; it is sought when it is asked for, and stands until something is told. */
    private static final class DearestPattern {
        private final Slabs slabs;
        private final int[] pattern;
        private final int[] tried;
        private int sum;
        private boolean known;

        DearestPattern(Slabs slabs) {
            this.slabs = slabs;
            pattern = new int[MOST_ORDERS];
            tried = new int[MOST_ORDERS];
        }

        void forget() {
            known = false;
        }

        int priceSum() {
            seek();
            return sum;
        }

        /** The caller has seen that there is such an order. */
        int piecesOf(int order) {
            seek();
            return pattern[order];
        }

        private void seek() {
            if (known) {
                return;
            }
            slabs.firstPattern(tried, slabs.numbers);
            take(slabs.priceOf(tried));
            // No price is below 0: fewer pieces of the last order alone are never better.
            int highest = slabs.count - 2;
            boolean more = slabs.nextPattern(tried, slabs.numbers, highest, NONE);
            for (int n = 0; n < MOST_PATTERNS && more; n++) {
                int price = slabs.priceOf(tried);
                if (price > sum) {
                    take(price);
                }
                more = slabs.nextPattern(tried, slabs.numbers, highest, NONE);
            }
            known = true;
        }

        private void take(int price) {
            sum = price;
            System.arraycopy(tried, 0, pattern, 0, MOST_ORDERS);
        }
    }

    /** Designing, and the best design that it found. */
    private static final class Designing {
        private final Slabs slabs;
        private final int[] left;
        private int leftWidth;
        private final int[][] tried;
        final int[][] best;
        int bestSheets;
        boolean hasRun;
        boolean spent;
        int steps;

        Designing(Slabs slabs) {
            this.slabs = slabs;
            left = new int[MOST_ORDERS];
            tried = new int[MOST_SHEETS][MOST_ORDERS];
            best = new int[MOST_SHEETS][MOST_ORDERS];
            bestSheets = NONE;
        }

        void forget() {
            bestSheets = NONE;
            hasRun = false;
            spent = false;
            steps = 0;
        }

        /** Designs anew; the caller has seen that no piece is wider than a sheet. */
        void run(int allowed) {
            forget();
            hasRun = true;
            System.arraycopy(slabs.numbers, 0, left, 0, MOST_ORDERS);
            leftWidth = slabs.widthOfAll();
            int sheets = 0;
            boolean more = opens(sheets);
            for (int turn = 0; turn < MOST_TURNS; turn++) {
                if (more) {
                    if (steps >= allowed) {
                        spent = true;
                        return;
                    }
                    steps++;
                    lay(tried[sheets]);
                    sheets++;
                    more = opens(sheets);
                } else {
                    if (sheets <= 0) {
                        return;
                    }
                    sheets--;
                    takeBack(tried[sheets]);
                    more = goesOn(tried[sheets]);
                }
            }
        }

        /** Looks at the design so far: true when the next sheet has a first pattern to try. */
        private boolean opens(int sheets) {
            if (bestSheets != NONE && sheets + slabs.sheetsFor(leftWidth) >= bestSheets) {
                return false;
            }
            if (leftWidth == 0) {
                takeAsBest(sheets);
                return false;
            }
            if (sheets >= MOST_SHEETS) {
                return false;
            }
            slabs.firstPattern(tried[sheets], left);
            return true;
        }

        private boolean goesOn(int[] row) {
            return slabs.nextPattern(row, left, slabs.count - 1, lowestLeft());
        }

        private int lowestLeft() {
            for (int i = 0; i < slabs.count; i++) {
                if (left[i] > 0) {
                    return i;
                }
            }
            return NONE;
        }

        private void lay(int[] row) {
            for (int i = 0; i < slabs.count; i++) {
                left[i] -= row[i];
            }
            leftWidth -= slabs.widthOf(row);
        }

        private void takeBack(int[] row) {
            for (int i = 0; i < slabs.count; i++) {
                left[i] += row[i];
            }
            leftWidth += slabs.widthOf(row);
        }

        private void takeAsBest(int sheets) {
            for (int k = 0; k < sheets && k < MOST_SHEETS; k++) {
                System.arraycopy(tried[k], 0, best[k], 0, MOST_ORDERS);
            }
            bestSheets = sheets;
        }
    }

    /** The kept patterns; orders that there were not yet have 0 pieces in them. */
    private static final class Store {
        int count;
        final int[][] patterns;
        final int[] times;
        final int[] days;

        Store() {
            patterns = new int[MOST_KEPT][MOST_ORDERS];
            times = new int[MOST_KEPT];
            days = new int[MOST_KEPT];
        }

        int find(int[] pattern) {
            for (int at = 0; at < count; at++) {
                if (same(patterns[at], pattern)) {
                    return at;
                }
            }
            return NONE;
        }

        void countAgain(int at, int day) {
            times[at]++;
            days[at] = Math.max(days[at], day);
        }

        /** Adds a pattern behind the others; the caller has seen that there is a place for it. */
        int add(int[] pattern, int day) {
            int at = count;
            System.arraycopy(pattern, 0, patterns[at], 0, MOST_ORDERS);
            times[at] = 1;
            days[at] = day;
            count = at + 1;
            return at;
        }

        private static boolean same(int[] one, int[] other) {
            for (int i = 0; i < MOST_ORDERS; i++) {
                if (one[i] != other[i]) {
                    return false;
                }
            }
            return true;
        }
    }
}
