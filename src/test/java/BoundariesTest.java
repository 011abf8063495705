/**
 * One method for each sentence of the document that names a boundary case: the last value that is
 * taken, the empty object, the full one. What is refused there is in RefusedTest.
 */
public final class BoundariesTest {
    private static final Check C = new Check();

    public static void main(String[] args) {
        theLastCall();
        sheetsAtFirst();
        narrowestSheets();
        widestSheets();
        atMostFiveOrders();
        narrowestPieces();
        widestPieces();
        fewestPieces();
        mostPieces();
        pricesAtFirst();
        lowestPrice();
        highestPrice();
        patternsWithNotMoreThanTheOrderHas();
        patternsNotAboveTheSheet();
        columnOfTheGreatestSum();
        columnThatIsTheLastPattern();
        columnOfTheSameIsTheFirst();
        columnOfNothing();
        boundRoundedUp();
        boundOfNoSum();
        greatestBound();
        C.end("BoundariesTest");
    }

    /** "An object is used for at most 512 calls": the 512th still answers. */
    private static void theLastCall() {
        PatternColumns x = new PatternColumns();
        x.order(10, 1);
        x.design(1);
        for (int n = 3; n <= 511; n++) {
            x.keep(0, n);
        }
        C.due("the 512th call", 509, x.kept(0, 5));
        PatternColumns y = new PatternColumns();
        for (int n = 1; n <= 510; n++) {
            y.sheet(n);
        }
        y.order(510, 1);
        C.due("the 512th call designs", 1, y.design(1));
    }

    /** "SHEETS have a WIDTH (.. 100 at first)": a piece of 100 fits just, one of 101 does not. */
    private static void sheetsAtFirst() {
        PatternColumns x = new PatternColumns();
        x.order(100, 1);
        C.due("a piece of 100", 1, x.design(1));
        C.due("nothing is over", 0, x.over(0));
        PatternColumns y = new PatternColumns();
        y.order(101, 1);
        C.meaning("a piece of 101", () -> y.design(1));
    }

    /** "SHEETS have a WIDTH (1 .. ": the narrowest ones. */
    private static void narrowestSheets() {
        PatternColumns x = new PatternColumns();
        x.order(1, 6);
        C.takes("sheet(1)", () -> x.sheet(1));
        C.due("a sheet for each piece", 6, x.design(6));
        C.due("nothing is over", 0, x.over(5));
        C.due("one piece in the column", 1, x.columnOf(0));
        C.takes("sheet(2)", () -> x.sheet(2));
        C.due("a sheet for two pieces", 3, x.design(3));
        PatternColumns y = new PatternColumns();
        y.order(2, 1);
        y.sheet(1);
        C.meaning("a piece of 2 on a sheet of 1", () -> y.design(1));
    }

    /** "SHEETS have a WIDTH (.. 1,000 ..)": the widest ones. */
    private static void widestSheets() {
        PatternColumns x = new PatternColumns();
        x.order(1000, 2);
        C.takes("sheet(999)", () -> x.sheet(999));
        C.meaning("a piece of 1000 on a sheet of 999", () -> x.design(2));
        C.takes("sheet(1000)", () -> x.sheet(1000));
        C.due("a sheet for each piece", 2, x.design(2));
        C.due("nothing is over", 0, x.over(1));
    }

    /** "ORDERS 0, 1, .. (at most 5)". */
    private static void atMostFiveOrders() {
        PatternColumns x = new PatternColumns();
        x.sheet(1000);
        for (int i = 0; i < 5; i++) {
            C.due("order " + i, i, x.order(10 + i, i + 1));
            C.due("it has a place in the column", i + 1, x.columnOf(i));
            int next = i + 1;
            C.index("the next one has none", () -> x.columnOf(next));
        }
        C.turn("a sixth order", () -> x.order(1, 1));
        C.takes("pieces of the last order", () -> x.pieces(4, 0));
        C.due("they are told anew", 0, x.columnOf(4));
        C.takes("the price of the last order", () -> x.price(4, 1));
        x.pieces(4, 2);
        C.due("its price counts", 2, x.column());
    }

    /** "ORDERS .. are of pieces of a width (1 .. ". */
    private static void narrowestPieces() {
        PatternColumns x = new PatternColumns();
        C.due("order(1, 6)", 0, x.order(1, 6));
        C.due("all on one sheet", 1, x.design(1));
        C.due("six of the width are used", 94, x.over(0));
    }

    /** "ORDERS .. are of pieces of a width (.. 1,000)". */
    private static void widestPieces() {
        PatternColumns x = new PatternColumns();
        C.due("order(1000, 6)", 0, x.order(1000, 6));
        C.due("order(999, 1)", 1, x.order(999, 1));
        x.sheet(1000);
        C.due("each on a sheet of its own", 7, x.design(100));
        C.due("nothing is over", 0, x.over(0));
        C.due("one is over", 1, x.over(6));
    }

    /** "so many (0 .. ": told with the order, or anew. */
    private static void fewestPieces() {
        PatternColumns x = new PatternColumns();
        C.due("order(10, 0)", 0, x.order(10, 0));
        C.due("order(10, 1)", 1, x.order(10, 1));
        x.price(0, 5);
        x.price(1, 3);
        C.due("no piece, no price", 3, x.column());
        C.due("no piece in the column", 0, x.columnOf(0));
        C.due("the one piece", 1, x.design(1));
        C.due("no piece on the sheet", 0, x.cut(0, 0));
        C.takes("pieces(1, 0)", () -> x.pieces(1, 0));
        C.due("nothing to cut", 0, x.design(1));
        C.takes("pieces(0, 1)", () -> x.pieces(0, 1));
        C.due("the other piece", 1, x.design(1));
    }

    /** "so many (.. 6) of them": told with the order, or anew. */
    private static void mostPieces() {
        PatternColumns x = new PatternColumns();
        C.due("order(10, 6)", 0, x.order(10, 6));
        C.due("order(10, 5)", 1, x.order(10, 5));
        x.sheet(1000);
        C.due("all on one sheet", 1, x.design(1));
        C.due("six of them", 6, x.cut(0, 0));
        C.due("five of them", 5, x.cut(0, 1));
        C.takes("pieces(1, 6)", () -> x.pieces(1, 6));
        x.design(1);
        C.due("six of these too", 6, x.cut(0, 1));
        for (int i = 2; i < 5; i++) {
            x.order(10, 6);
        }
        C.due("all that there may be", 1, x.design(1));
        C.due("thirty of 10", 700, x.over(0));
    }

    /** "with a PRICE (.. 0 at first)". */
    private static void pricesAtFirst() {
        PatternColumns x = new PatternColumns();
        for (int i = 0; i < 5; i++) {
            x.order(1, 6);
            C.due("no price yet", 0, x.column());
        }
        C.due("no bound yet", 0, x.bound());
    }

    /** "with a PRICE (0 .. ": back to 0 from another one. */
    private static void lowestPrice() {
        PatternColumns x = new PatternColumns();
        x.order(60, 1);
        x.order(60, 1);
        x.price(0, 2);
        x.price(1, 1);
        C.due("the dearer one", 1, x.columnOf(0));
        C.takes("price(0, 0)", () -> x.price(0, 0));
        C.due("the price of 1", 1, x.column());
        C.due("the other one", 1, x.columnOf(1));
        C.takes("price(1, 0)", () -> x.price(1, 0));
        C.due("no price", 0, x.column());
        C.due("of the same the first", 1, x.columnOf(0));
    }

    /** "with a PRICE (.. 1,000 ..)". */
    private static void highestPrice() {
        PatternColumns x = new PatternColumns();
        x.order(60, 1);
        x.order(60, 1);
        C.takes("price(0, 999)", () -> x.price(0, 999));
        C.takes("price(1, 1000)", () -> x.price(1, 1000));
        C.due("the highest price", 1000, x.column());
        C.due("the dearer one", 1, x.columnOf(1));
    }

    /** "A PATTERN has so many pieces of each order (not more than the order has)". */
    private static void patternsWithNotMoreThanTheOrderHas() {
        PatternColumns x = new PatternColumns();
        for (int i = 0; i < 5; i++) {
            x.order(1, 5 - i);
            x.price(i, 1 + i);
        }
        for (int i = 0; i < 5; i++) {
            C.due("all of order " + i, 5 - i, x.columnOf(i));
        }
        x.pieces(2, 2);
        C.due("one less", 2, x.columnOf(2));
        x.pieces(2, 4);
        C.due("two more", 4, x.columnOf(2));
    }

    /** "whose widths together are not above the sheet's": as wide as the sheet is taken, one more is not. */
    private static void patternsNotAboveTheSheet() {
        PatternColumns x = new PatternColumns();
        x.order(30, 2);
        x.order(20, 2);
        x.price(0, 1);
        x.price(1, 1);
        C.due("30 + 30 + 20 + 20 is 100", 4, x.column());
        x.sheet(99);
        C.due("it is above 99", 3, x.column());
        C.due("two sheets of 99", 2, x.design(100));
        x.sheet(100);
        C.due("one sheet of 100", 1, x.design(100));
        C.due("nothing is over", 0, x.over(0));
        x.sheet(101);
        C.due("one sheet of 101", 1, x.design(100));
        C.due("one is over", 1, x.over(0));
    }

    /** "THE COLUMN is the pattern of the greatest sum of prices": by 1 it goes ahead of an earlier one. */
    private static void columnOfTheGreatestSum() {
        PatternColumns x = new PatternColumns();
        x.order(100, 1);
        x.order(50, 2);
        x.price(0, 10);
        x.price(1, 5);
        C.due("the same sum", 1, x.columnOf(0));
        x.price(1, 6);
        C.due("a greater one", 0, x.columnOf(0));
        C.due("with both of order 1", 2, x.columnOf(1));
        C.due("its sum", 12, x.column());
        x.price(0, 12);
        C.due("the same again", 1, x.columnOf(0));
        x.price(0, 11);
        C.due("a lower one", 0, x.columnOf(0));
    }

    /** All patterns are looked at: the last one of five full orders can be the column. */
    private static void columnThatIsTheLastPattern() {
        PatternColumns x = new PatternColumns();
        x.sheet(999);
        for (int i = 0; i < 4; i++) {
            x.order(10, 6);
            x.price(i, 1);
        }
        x.order(165, 6);
        x.price(4, 1000);
        C.due("six of order 4 alone", 6000, x.column());
        C.due("none of order 0", 0, x.columnOf(0));
        C.due("all of order 4", 6, x.columnOf(4));
        x.sheet(1000);
        C.due("one of order 0 fits beside them", 6001, x.column());
        C.due("it is of order 0", 1, x.columnOf(0));
    }

    /** "of the same the first one: that with the most pieces of order 0, then of order 1, and so on". */
    private static void columnOfTheSameIsTheFirst() {
        for (int lowest = 0; lowest < 4; lowest++) {
            PatternColumns x = new PatternColumns();
            for (int i = 0; i < 5; i++) {
                x.order(20, i < lowest ? 0 : 6);
                x.price(i, 7);
            }
            C.due("the sum of five", 35, x.column());
            for (int i = 0; i < 5; i++) {
                C.due("the same from order " + lowest, i == lowest ? 5 : 0, x.columnOf(i));
            }
            x.pieces(lowest, 2);
            C.due("the most of order " + lowest, 2, x.columnOf(lowest));
            C.due("then of the next one", 3, x.columnOf(lowest + 1));
        }
        PatternColumns y = new PatternColumns();
        y.order(60, 1);
        y.order(30, 3);
        y.order(10, 4);
        y.price(2, 1);
        C.due("all of order 2", 4, y.columnOf(2));
        C.due("without a price, but the first", 1, y.columnOf(0));
        C.due("no room for this one", 0, y.columnOf(1));
    }

    /** The column without orders, without pieces, and when nothing fits. */
    private static void columnOfNothing() {
        PatternColumns x = new PatternColumns();
        C.due("no orders", 0, x.column());
        x.order(50, 0);
        x.price(0, 9);
        C.due("no pieces", 0, x.column());
        C.due("none in the column", 0, x.columnOf(0));
        x.pieces(0, 6);
        x.sheet(49);
        C.due("none fits", 0, x.column());
        C.due("none in the column", 0, x.columnOf(0));
        x.sheet(50);
        C.due("one fits just", 9, x.column());
    }

    /** "THE BOUND BY PRICES: .. over the column's sum, rounded up". */
    private static void boundRoundedUp() {
        PatternColumns x = new PatternColumns();
        x.order(50, 4);
        x.price(0, 1);
        C.due("4 over 2", 2, x.bound());
        x.pieces(0, 5);
        C.due("5 over 2 is rounded up", 3, x.bound());
        x.pieces(0, 6);
        C.due("6 over 2", 3, x.bound());
        x.pieces(0, 1);
        C.due("1 over 1", 1, x.bound());
        x.pieces(0, 6);
        x.price(0, 1000);
        x.order(100, 1);
        C.due("6000 over 2000", 3, x.bound());
        x.price(1, 1);
        C.due("6001 over 2000 is rounded up", 4, x.bound());
        x.price(1, 0);
        C.due("6000 over 2000 again", 3, x.bound());
    }

    /** "0 when that sum is 0": without orders, prices or pieces, and when nothing that has a price fits. */
    private static void boundOfNoSum() {
        PatternColumns x = new PatternColumns();
        C.due("no orders", 0, x.bound());
        x.order(50, 6);
        C.due("no prices", 0, x.bound());
        x.price(0, 7);
        C.due("a price", 3, x.bound());
        x.pieces(0, 0);
        C.due("no pieces", 0, x.bound());
        x.pieces(0, 6);
        x.sheet(49);
        C.due("nothing fits", 0, x.bound());
        x.order(49, 1);
        C.due("what fits has no price", 0, x.bound());
        C.due("it is in the column", 1, x.columnOf(1));
    }

    /** The bound can be far above the sheets of a design when wide pieces have prices. */
    private static void greatestBound() {
        PatternColumns x = new PatternColumns();
        for (int i = 0; i < 4; i++) {
            x.order(1000, 6);
            x.price(i, 1000);
        }
        x.order(1, 1);
        x.price(4, 1);
        C.due("24001 over 1", 24001, x.bound());
        C.due("the narrow piece alone fits", 1, x.column());
    }

    private BoundariesTest() {
    }
}
