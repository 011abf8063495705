import java.util.function.Consumer;
import java.util.function.Function;
import java.util.function.Supplier;

/**
 * "Checks are made in this order: .. What is refused changes nothing." Each refused call throws what
 * the document says, and every later call answers as if it had not been made.
 */
public final class RefusedTest {
    private static final Check C = new Check();
    private static final int MIN = Integer.MIN_VALUE;
    private static final int MAX = Integer.MAX_VALUE;

    private interface State extends Supplier<PatternColumns> {
    }

    private interface Call extends Consumer<PatternColumns> {
    }

    public static void main(String[] args) {
        sheetOutOfRange();
        orderOutOfTurn();
        orderOutOfRange();
        piecesOfNoSuchOrder();
        piecesOutOfRange();
        priceOfNoSuchOrder();
        priceOutOfRange();
        columnOfNoSuchOrder();
        designOutOfRange();
        designOfTooWidePieces();
        designedOfNoSuchWhat();
        designedOutOfTurn();
        gapOutOfTurn();
        cutOfNoSuchSheet();
        cutOfNoSuchOrder();
        cutOutOfTurn();
        overOfNoSuchSheet();
        overOutOfTurn();
        keepOfNoSuchSheet();
        keepOutOfTurn();
        keepOutOfRange();
        keepBesideFortyOthers();
        keptOfNoSuchOne();
        keptOfNoSuchWhat();
        fittingBelowZero();
        indexAheadOfTurn();
        turnAheadOfIndex();
        turnAheadOfRange();
        indexAheadOfRange();
        rangeAheadOfMeaning();
        indexAndTurnAheadOfMeaning();
        C.end("RefusedTest");
    }

    /** Promise 2: "Range: it." */
    private static void sheetOutOfRange() {
        for (int width : new int[] {0, 1001, -1, MIN, MAX}) {
            range("sheet(" + width + ")", Made::designed, x -> x.sheet(width));
        }
        range("sheet(0) on a new object", PatternColumns::new, x -> x.sheet(0));
    }

    /** Promise 3: "Turn: there are 5". */
    private static void orderOutOfTurn() {
        turn("a sixth order", Made::fiveOrders, x -> x.order(3, 2));
        turn("a sixth order without pieces", Made::fiveOrders, x -> x.order(1, 0));
    }

    /** Promise 3: "range: width, pieces." */
    private static void orderOutOfRange() {
        for (int width : new int[] {0, 1001, -1, MIN, MAX}) {
            range("order(" + width + ", 1)", Made::designed, x -> x.order(width, 1));
        }
        for (int pieces : new int[] {-1, 7, MIN, MAX}) {
            range("order(1, " + pieces + ")", Made::designed, x -> x.order(1, pieces));
        }
        range("order(0, 7)", Made::designed, x -> x.order(0, 7));
        range("order(0, 1) on a new object", PatternColumns::new, x -> x.order(0, 1));
        range("order(1, 7) on a new object", PatternColumns::new, x -> x.order(1, 7));
    }

    /** Promise 4: "Index: no such order". */
    private static void piecesOfNoSuchOrder() {
        for (int order : new int[] {-1, 2, 4, 5, MIN, MAX}) {
            index("pieces(" + order + ", 1)", Made::designed, x -> x.pieces(order, 1));
        }
        index("pieces(0, 1) on a new object", PatternColumns::new, x -> x.pieces(0, 1));
        index("pieces(5, 1) of five orders", Made::fiveOrders, x -> x.pieces(5, 1));
    }

    /** Promise 4: "range: pieces." */
    private static void piecesOutOfRange() {
        for (int pieces : new int[] {-1, 7, MIN, MAX}) {
            range("pieces(0, " + pieces + ")", Made::designed, x -> x.pieces(0, pieces));
            range("pieces(4, " + pieces + ")", Made::fiveOrders, x -> x.pieces(4, pieces));
        }
    }

    /** Promise 5: "Index: no such order". */
    private static void priceOfNoSuchOrder() {
        for (int order : new int[] {-1, 2, 4, 5, MIN, MAX}) {
            index("price(" + order + ", 1)", Made::designed, x -> x.price(order, 1));
        }
        index("price(0, 1) on a new object", PatternColumns::new, x -> x.price(0, 1));
        index("price(5, 1) of five orders", Made::fiveOrders, x -> x.price(5, 1));
    }

    /** Promise 5: "range: it." */
    private static void priceOutOfRange() {
        for (int price : new int[] {-1, 1001, MIN, MAX}) {
            range("price(0, " + price + ")", Made::designed, x -> x.price(0, price));
            range("price(4, " + price + ")", Made::fiveOrders, x -> x.price(4, price));
        }
    }

    /** Promise 7: "Index: no such order." */
    private static void columnOfNoSuchOrder() {
        for (int order : new int[] {-1, 2, 4, 5, MIN, MAX}) {
            index("columnOf(" + order + ")", Made::designed, x -> x.columnOf(order));
        }
        index("columnOf(0) on a new object", PatternColumns::new, x -> x.columnOf(0));
        index("columnOf(5) of five orders", Made::fiveOrders, x -> x.columnOf(5));
    }

    /** Promise 9: "Range: steps". */
    private static void designOutOfRange() {
        for (int steps : new int[] {-1, 100001, MIN, MAX}) {
            range("design(" + steps + ")", Made::designed, x -> x.design(steps));
            range("design(" + steps + ") on a new object", PatternColumns::new, x -> x.design(steps));
        }
        range("design(-1) behind a spent one", Made::spent, x -> x.design(-1));
    }

    /** Promise 9: "meaning: some piece is wider than a sheet." */
    private static void designOfTooWidePieces() {
        meaning("design(100)", Made::tooWide, x -> x.design(100));
        meaning("design(0)", Made::tooWide, x -> x.design(0));
        meaning("design(100000)", Made::tooWide, x -> x.design(100000));
        for (int wide = 0; wide < 5; wide++) {
            int order = wide;
            meaning("order " + wide + " alone is too wide", () -> oneOfFiveTooWide(order), x -> x.design(100));
        }
    }

    private static PatternColumns oneOfFiveTooWide(int wide) {
        PatternColumns x = new PatternColumns();
        for (int i = 0; i < 5; i++) {
            x.order(i == wide ? 101 : 100, 1);
        }
        return x;
    }

    /** Promise 10: "Index: no such what". */
    private static void designedOfNoSuchWhat() {
        for (int what : new int[] {-1, 2, MIN, MAX}) {
            index("designed(" + what + ")", Made::designed, x -> x.designed(what));
        }
    }

    /** Promise 10: "turn: there was none since something was told." */
    private static void designedOutOfTurn() {
        for (int what = 0; what < 2; what++) {
            int asked = what;
            turn("designed(" + what + ") on a new object", PatternColumns::new, x -> x.designed(asked));
            turn("designed(" + what + ") of orders alone", Made::foursAndSixes, x -> x.designed(asked));
            turn("designed(" + what + ") behind a new width", Made::tooWide, x -> x.designed(asked));
            turn("designed(" + what + ") behind a refused design", RefusedTest::refusedDesign, x -> x.designed(asked));
        }
    }

    private static PatternColumns refusedDesign() {
        PatternColumns x = Made.tooWide();
        C.meaning("design(100) is refused", () -> x.design(100));
        return x;
    }

    /** Promise 11: "Turn: there is no design." */
    private static void gapOutOfTurn() {
        turn("gap() on a new object", PatternColumns::new, PatternColumns::gap);
        turn("gap() of orders alone", Made::foursAndSixes, PatternColumns::gap);
        turn("gap() when none was found", Made::spent, PatternColumns::gap);
        turn("gap() behind a new width", Made::tooWide, PatternColumns::gap);
    }

    /** Promise 12: "Index: no such sheet of it (0 first)". */
    private static void cutOfNoSuchSheet() {
        for (int sheet : new int[] {-1, 2, 29, 30, MIN, MAX}) {
            index("cut(" + sheet + ", 0)", Made::designed, x -> x.cut(sheet, 0));
        }
        index("cut(3, 0) of three sheets", Made::fiveOrders, x -> x.cut(3, 0));
        index("cut(0, 0) of no sheets", Made::nothingToCut, x -> x.cut(0, 0));
        index("cut(-1, 0) of no sheets", Made::nothingToCut, x -> x.cut(-1, 0));
    }

    /** Promise 12: "or order". */
    private static void cutOfNoSuchOrder() {
        for (int order : new int[] {-1, 2, 4, 5, MIN, MAX}) {
            index("cut(0, " + order + ")", Made::designed, x -> x.cut(0, order));
        }
        index("cut(0, 5) of five orders", Made::fiveOrders, x -> x.cut(0, 5));
    }

    /** Promise 12: "turn (ahead of index): there is no design." */
    private static void cutOutOfTurn() {
        turn("cut(0, 0) on a new object", PatternColumns::new, x -> x.cut(0, 0));
        turn("cut(0, 0) when none was found", Made::spent, x -> x.cut(0, 0));
        turn("cut(0, 0) behind a new width", Made::tooWide, x -> x.cut(0, 0));
    }

    /** Promise 13: "Likewise." */
    private static void overOfNoSuchSheet() {
        for (int sheet : new int[] {-1, 2, 29, 30, MIN, MAX}) {
            index("over(" + sheet + ")", Made::designed, x -> x.over(sheet));
        }
        index("over(3) of three sheets", Made::fiveOrders, x -> x.over(3));
        index("over(0) of no sheets", Made::nothingToCut, x -> x.over(0));
        index("over(-1) of no sheets", Made::nothingToCut, x -> x.over(-1));
    }

    /** Promise 13: "Likewise." */
    private static void overOutOfTurn() {
        turn("over(0) on a new object", PatternColumns::new, x -> x.over(0));
        turn("over(0) when none was found", Made::spent, x -> x.over(0));
        turn("over(0) behind a new width", Made::tooWide, x -> x.over(0));
    }

    /** Promise 14: "Index, turn: likewise". */
    private static void keepOfNoSuchSheet() {
        for (int sheet : new int[] {-1, 2, 29, 30, MIN, MAX}) {
            index("keep(" + sheet + ", 70)", Made::designed, x -> x.keep(sheet, 70));
        }
        index("keep(3, 70) of three sheets", Made::fiveOrders, x -> x.keep(3, 70));
        index("keep(0, 70) of no sheets", Made::nothingToCut, x -> x.keep(0, 70));
        index("keep(-1, 70) of no sheets", Made::nothingToCut, x -> x.keep(-1, 70));
    }

    /** Promise 14: "Index, turn: likewise". */
    private static void keepOutOfTurn() {
        turn("keep(0, 70) on a new object", PatternColumns::new, x -> x.keep(0, 70));
        turn("keep(0, 70) when none was found", Made::spent, x -> x.keep(0, 70));
        turn("keep(0, 70) behind a new width", Made::tooWide, x -> x.keep(0, 70));
    }

    /** Promise 14: "range: the day". Sheet 0 is kept already, sheet 2 is not. */
    private static void keepOutOfRange() {
        for (int day : new int[] {-1, 10000, MIN, MAX}) {
            range("keep(0, " + day + ")", Made::fiveOrders, x -> x.keep(0, day));
            range("keep(2, " + day + ")", Made::fiveOrders, x -> x.keep(2, day));
        }
    }

    /** Promise 14: "meaning: 40 others are kept." */
    private static void keepBesideFortyOthers() {
        meaning("keep(0, 70)", Made::fortyKept, x -> x.keep(0, 70));
        meaning("keep(0, 0)", Made::fortyKept, x -> x.keep(0, 0));
        meaning("keep(0, 9999)", Made::fortyKept, x -> x.keep(0, 9999));
    }

    /** Promise 15: "Index: no such kept one". */
    private static void keptOfNoSuchOne() {
        for (int i : new int[] {-1, 1, 39, 40, MIN, MAX}) {
            index("kept(" + i + ", 0)", Made::designed, x -> x.kept(i, 0));
        }
        index("kept(0, 0) on a new object", PatternColumns::new, x -> x.kept(0, 0));
        index("kept(0, 5) when nothing is kept", Made::spent, x -> x.kept(0, 5));
        index("kept(40, 0) of forty", Made::fortyKept, x -> x.kept(40, 0));
    }

    /** Promise 15: "or what." */
    private static void keptOfNoSuchWhat() {
        for (int what : new int[] {-1, 7, MIN, MAX}) {
            index("kept(0, " + what + ")", Made::designed, x -> x.kept(0, what));
        }
        index("kept(39, 7) of forty", Made::fortyKept, x -> x.kept(39, 7));
    }

    /** Promise 16: "Index: i is below 0." */
    private static void fittingBelowZero() {
        index("fitting(-1)", Made::designed, x -> x.fitting(-1));
        index("fitting(min)", Made::designed, x -> x.fitting(MIN));
        index("fitting(-1) on a new object", PatternColumns::new, x -> x.fitting(-1));
    }

    private static void indexAheadOfTurn() {
        index("designed(2) on a new object", PatternColumns::new, x -> x.designed(2));
        index("designed(-1) on a new object", PatternColumns::new, x -> x.designed(-1));
        index("designed(2) behind a new width", Made::tooWide, x -> x.designed(2));
    }

    /** Promises 12 to 14 name the turn ahead of the index. */
    private static void turnAheadOfIndex() {
        turn("cut(-1, 0)", Made::foursAndSixes, x -> x.cut(-1, 0));
        turn("cut(0, 5)", Made::foursAndSixes, x -> x.cut(0, 5));
        turn("cut(-1, -1)", Made::spent, x -> x.cut(-1, -1));
        turn("over(-1)", Made::foursAndSixes, x -> x.over(-1));
        turn("over(30)", Made::spent, x -> x.over(30));
        turn("keep(-1, 1)", Made::foursAndSixes, x -> x.keep(-1, 1));
        turn("keep(30, 1)", Made::spent, x -> x.keep(30, 1));
    }

    private static void turnAheadOfRange() {
        turn("a sixth order of no width", Made::fiveOrders, x -> x.order(0, 1));
        turn("a sixth order that is too wide", Made::fiveOrders, x -> x.order(1001, 1));
        turn("a sixth order of too many pieces", Made::fiveOrders, x -> x.order(1, 7));
        turn("a sixth order of -1 pieces", Made::fiveOrders, x -> x.order(1, -1));
        turn("keep(0, -1)", Made::foursAndSixes, x -> x.keep(0, -1));
        turn("keep(0, 10000)", Made::spent, x -> x.keep(0, 10000));
        turn("keep(-1, -1)", Made::foursAndSixes, x -> x.keep(-1, -1));
    }

    private static void indexAheadOfRange() {
        index("pieces(-1, 7)", Made::designed, x -> x.pieces(-1, 7));
        index("pieces(2, -1)", Made::designed, x -> x.pieces(2, -1));
        index("price(-1, 1001)", Made::designed, x -> x.price(-1, 1001));
        index("price(2, -1)", Made::designed, x -> x.price(2, -1));
        index("keep(-1, -1)", Made::designed, x -> x.keep(-1, -1));
        index("keep(2, 10000)", Made::designed, x -> x.keep(2, 10000));
    }

    private static void rangeAheadOfMeaning() {
        range("design(-1) of too wide pieces", Made::tooWide, x -> x.design(-1));
        range("design(100001) of too wide pieces", Made::tooWide, x -> x.design(100001));
        range("keep(0, -1) beside forty others", Made::fortyKept, x -> x.keep(0, -1));
        range("keep(0, 10000) beside forty others", Made::fortyKept, x -> x.keep(0, 10000));
    }

    private static void indexAndTurnAheadOfMeaning() {
        index("keep(1, 70) beside forty others", Made::fortyKept, x -> x.keep(1, 70));
        index("keep(-1, 10000) beside forty others", Made::fortyKept, x -> x.keep(-1, 10000));
        turn("keep(0, 70) without a design", RefusedTest::fortyKeptNoDesign, x -> x.keep(0, 70));
        turn("keep(1, 10000) without a design", RefusedTest::fortyKeptNoDesign, x -> x.keep(1, 10000));
    }

    private static PatternColumns fortyKeptNoDesign() {
        PatternColumns x = Made.fortyKept();
        x.sheet(100);
        return x;
    }

    private static void index(String name, State made, Call call) {
        refused(name, IndexOutOfBoundsException.class, made, call);
    }

    private static void turn(String name, State made, Call call) {
        refused(name, IllegalStateException.class, made, call);
    }

    private static void range(String name, State made, Call call) {
        refused(name, IllegalArgumentException.class, made, call);
    }

    private static void meaning(String name, State made, Call call) {
        refused(name, UnsupportedOperationException.class, made, call);
    }

    private static void refused(String name, Class<? extends RuntimeException> want, State made, Call call) {
        PatternColumns x = made.get();
        C.refuses(name, want, () -> call.accept(x));
        C.refuses(name + " again", want, () -> call.accept(x));
        asIfNotMade(name + ", then all that can be asked", made, call, Asked::all);
        asIfNotMade(name + ", then later calls", made, call, Asked::later);
        State askedAhead = () -> {
            PatternColumns y = made.get();
            y.column();
            return y;
        };
        asIfNotMade(name + " behind column()", askedAhead, call, Asked::all);
    }

    /** Of two objects in the same state one has the refused call: both answer the same behind it. */
    private static void asIfNotMade(String name, State made, Call call, Function<PatternColumns, String> asked) {
        PatternColumns with = made.get();
        try {
            call.accept(with);
        } catch (RuntimeException refused) {
            C.same(name, asked.apply(made.get()), asked.apply(with));
            return;
        }
        C.isTrue(name + ": the call is refused", false);
    }

    private RefusedTest() {
    }
}
