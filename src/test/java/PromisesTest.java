/** One method for each promise: ordinary inputs, the edges that the document names, wrong inputs. */
public final class PromisesTest {
    private static final Check C = new Check();

    public static void main(String[] args) {
        promise1NewObject();
        promise2Sheet();
        promise3Order();
        promise4Pieces();
        promise5Price();
        promise6Column();
        promise7ColumnOf();
        promise8Bound();
        promise9Design();
        promise9StepsOneByOne();
        promise9DesignAtTheLimits();
        promise10Designed();
        promise11Gap();
        promise12Cut();
        promise13Over();
        promise14Keep();
        promise14FortyKept();
        promise15Kept();
        promise16Fitting();
        whatIsToldEndsTheDesign();
        whatIsRefusedChangesNothing();
        C.end("PromisesTest");
    }

    private static void promise1NewObject() {
        PatternColumns x = new PatternColumns();
        C.due("1 column()", 0, x.column());
        C.due("1 bound()", 0, x.bound());
        C.index("1 columnOf(0)", () -> x.columnOf(0));
        C.index("1 pieces(0, 1)", () -> x.pieces(0, 1));
        C.index("1 price(0, 1)", () -> x.price(0, 1));
        C.index("1 kept(0, 0)", () -> x.kept(0, 0));
        C.due("1 fitting(0)", -1, x.fitting(0));
        C.turn("1 gap()", x::gap);
        C.turn("1 cut(0, 0)", () -> x.cut(0, 0));
        C.turn("1 over(0)", () -> x.over(0));
        C.turn("1 keep(0, 0)", () -> x.keep(0, 0));
        C.turn("1 designed(0)", () -> x.designed(0));
        C.turn("1 designed(1)", () -> x.designed(1));
        PatternColumns y = new PatternColumns();
        y.order(100, 1);
        C.due("1 a sheet of 100 at first", 1, y.design(10));
        C.due("1 nothing over", 0, y.over(0));
        PatternColumns z = new PatternColumns();
        z.order(101, 1);
        C.meaning("1 not above 100", () -> z.design(10));
    }

    private static void promise2Sheet() {
        PatternColumns x = new PatternColumns();
        C.range("2 sheet(0)", () -> x.sheet(0));
        C.range("2 sheet(-1)", () -> x.sheet(-1));
        C.range("2 sheet(1001)", () -> x.sheet(1001));
        C.range("2 sheet(min)", () -> x.sheet(Integer.MIN_VALUE));
        C.range("2 sheet(max)", () -> x.sheet(Integer.MAX_VALUE));
        x.order(1, 2);
        x.sheet(1);
        C.due("2 sheets of 1", 2, x.design(10));
        x.sheet(1000);
        C.due("2 sheets of 1000", 1, x.design(10));
        C.due("2 over(0)", 998, x.over(0));
    }

    private static void promise3Order() {
        PatternColumns x = new PatternColumns();
        C.range("3 order(0, 1)", () -> x.order(0, 1));
        C.range("3 order(1001, 1)", () -> x.order(1001, 1));
        C.range("3 order(-5, 1)", () -> x.order(-5, 1));
        C.range("3 order(1, -1)", () -> x.order(1, -1));
        C.range("3 order(1, 7)", () -> x.order(1, 7));
        C.due("3 order(1, 0)", 0, x.order(1, 0));
        C.due("3 order(1000, 6)", 1, x.order(1000, 6));
        C.due("3 order(1, 6)", 2, x.order(1, 6));
        C.due("3 order(1000, 0)", 3, x.order(1000, 0));
        C.due("3 order(50, 3)", 4, x.order(50, 3));
        C.turn("3 a sixth order", () -> x.order(1, 1));
        C.turn("3 turn ahead of range", () -> x.order(0, 7));
        C.due("3 a price of 0 at first", 0, x.column());
        x.sheet(1000);
        C.due("3 design", 7, x.design(100000));
    }

    private static void promise4Pieces() {
        PatternColumns x = new PatternColumns();
        x.order(60, 1);
        x.order(70, 2);
        C.index("4 pieces(-1, 1)", () -> x.pieces(-1, 1));
        C.index("4 pieces(2, 1)", () -> x.pieces(2, 1));
        C.index("4 index ahead of range", () -> x.pieces(2, 7));
        C.range("4 pieces(0, -1)", () -> x.pieces(0, -1));
        C.range("4 pieces(1, 7)", () -> x.pieces(1, 7));
        C.due("4 design", 3, x.design(100));
        x.pieces(0, 6);
        C.due("4 design with 6", 8, x.design(100));
        x.pieces(1, 0);
        C.due("4 design with 0", 6, x.design(100));
        x.pieces(0, 0);
        C.due("4 design of nothing", 0, x.design(100));
    }

    private static void promise5Price() {
        PatternColumns x = new PatternColumns();
        x.order(60, 1);
        x.order(70, 1);
        C.index("5 price(-1, 1)", () -> x.price(-1, 1));
        C.index("5 price(2, 1)", () -> x.price(2, 1));
        C.index("5 index ahead of range", () -> x.price(2, 1001));
        C.range("5 price(0, -1)", () -> x.price(0, -1));
        C.range("5 price(0, 1001)", () -> x.price(0, 1001));
        x.price(0, 1000);
        C.due("5 column()", 1000, x.column());
        x.price(1, 999);
        C.due("5 column() stays", 1000, x.column());
        x.price(0, 0);
        C.due("5 column() of the other", 999, x.column());
        x.design(100);
        x.price(1, 7);
        C.due("5 a design stays", 1, x.cut(0, 0));
        C.due("5 designed stays", 0, x.designed(0));
    }

    private static void promise6Column() {
        PatternColumns x = new PatternColumns();
        x.order(45, 3);
        x.order(36, 3);
        x.order(31, 4);
        x.order(14, 5);
        C.due("6 without prices", 0, x.column());
        x.price(0, 45);
        x.price(1, 36);
        x.price(2, 31);
        x.price(3, 14);
        C.due("6 column()", 100, x.column());
        x.price(3, 500);
        C.due("6 not more than fit", 2500, x.column());
        x.pieces(3, 4);
        C.due("6 not more pieces than there are", 2036, x.column());
        x.pieces(3, 6);
        C.due("6 more pieces than before", 3000, x.column());
        x.sheet(28);
        C.due("6 in sheets of 28", 1000, x.column());
        x.sheet(13);
        C.due("6 nothing fits", 0, x.column());
        x.sheet(1000);
        C.due("6 all fit", 135 + 108 + 124 + 3000, x.column());
        x.pieces(3, 0);
        C.due("6 none of order 3", 135 + 108 + 124, x.column());
        x.order(1, 6);
        x.price(4, 1000);
        C.due("6 a fifth order", 135 + 108 + 124 + 6000, x.column());
    }

    private static void promise7ColumnOf() {
        PatternColumns x = new PatternColumns();
        x.order(50, 2);
        x.order(25, 6);
        x.order(25, 6);
        C.index("7 columnOf(-1)", () -> x.columnOf(-1));
        C.index("7 columnOf(3)", () -> x.columnOf(3));
        row("7 of the same the first", x, 2, 0, 0);
        x.price(1, 1);
        row("7 dearest is order 1", x, 0, 4, 0);
        x.price(0, 2);
        row("7 the same again", x, 2, 0, 0);
        x.price(2, 1);
        row("7 all alike", x, 2, 0, 0);
        x.pieces(0, 1);
        row("7 then most of order 1", x, 1, 2, 0);
        x.price(2, 2);
        row("7 dearest is order 2", x, 0, 0, 4);
        x.pieces(2, 3);
        row("7 three of order 2", x, 0, 1, 3);
        x.sheet(24);
        row("7 nothing fits", x, 0, 0, 0);
    }

    private static void row(String call, PatternColumns x, int... want) {
        for (int i = 0; i < want.length; i++) {
            C.due(call + ": columnOf(" + i + ")", want[i], x.columnOf(i));
        }
    }

    private static void promise8Bound() {
        PatternColumns x = new PatternColumns();
        x.order(60, 3);
        C.due("8 without prices", 0, x.bound());
        x.price(0, 10);
        C.due("8 three alone", 3, x.bound());
        x.order(40, 2);
        x.price(1, 5);
        C.due("8 40 over 15 rounded up", 3, x.bound());
        x.pieces(0, 4);
        x.pieces(1, 1);
        C.due("8 45 over 15 is just 3", 3, x.bound());
        x.pieces(0, 5);
        C.due("8 55 over 15 rounded up", 4, x.bound());
        x.sheet(39);
        C.due("8 nothing fits", 0, x.bound());
        x.sheet(59);
        C.due("8 the wide ones count above", 11, x.bound());
    }

    private static void promise9Design() {
        PatternColumns x = new PatternColumns();
        C.range("9 design(-1)", () -> x.design(-1));
        C.range("9 design(100001)", () -> x.design(100001));
        C.due("9 no orders, no steps", 0, x.design(0));
        C.due("9 not spent", 0, x.designed(0));
        C.due("9 no steps", 0, x.designed(1));
        x.order(101, 0);
        C.due("9 no pieces", 0, x.design(100000));
        x.pieces(0, 1);
        C.meaning("9 wider than a sheet", () -> x.design(10));
        C.range("9 range ahead of meaning", () -> x.design(-1));
        x.sheet(101);
        C.due("9 no step for one piece", -1, x.design(0));
        C.due("9 spent", 1, x.designed(0));
        C.due("9 just as wide as a sheet", 1, x.design(1));
        C.due("9 one step is enough", 0, x.designed(0));
    }

    private static void promise9StepsOneByOne() {
        int[] sheets = {-1, -1, -1, 3, 3, 2, 2, 2, 2};
        int[] spent = {1, 1, 1, 1, 1, 1, 1, 0, 0};
        int[] steps = {0, 1, 2, 3, 4, 5, 6, 7, 7};
        PatternColumns x = Made.foursAndSixes();
        for (int n = 0; n < sheets.length; n++) {
            C.due("9 design(" + n + ")", sheets[n], x.design(n));
            C.due("9 spent of " + n, spent[n], x.designed(0));
            C.due("9 steps of " + n, steps[n], x.designed(1));
        }
        int[][] first = {{2, 0}, {0, 1}, {0, 1}};
        x.design(3);
        cuts("9 the first one", x, first);
        int[][] last = {{1, 1}, {1, 1}};
        x.design(100000);
        cuts("9 the best one", x, last);
    }

    private static void cuts(String call, PatternColumns x, int[][] want) {
        for (int k = 0; k < want.length; k++) {
            for (int i = 0; i < want[k].length; i++) {
                C.due(call + ": cut(" + k + ", " + i + ")", want[k][i], x.cut(k, i));
            }
        }
        C.index(call + ": a sheet more", () -> x.cut(want.length, 0));
    }

    private static void promise9DesignAtTheLimits() {
        PatternColumns x = new PatternColumns();
        x.sheet(1);
        for (int i = 0; i < 5; i++) {
            x.order(1, 6);
        }
        C.due("9 thirty sheets", 30, x.design(100000));
        C.due("9 thirty steps", 30, x.designed(1));
        C.due("9 cut(29, 4)", 1, x.cut(29, 4));
        C.due("9 cut(29, 0)", 0, x.cut(29, 0));
        x.sheet(1000);
        C.due("9 all on one sheet", 1, x.design(100000));
        C.due("9 its other patterns are tried too", 6 * 7 * 7 * 7 * 7, x.designed(1));
        PatternColumns y = new PatternColumns();
        int[] widths = {44, 52, 22, 56, 49};
        for (int width : widths) {
            y.order(width, 6);
        }
        C.due("9 the best one of a long designing", 16, y.design(100000));
        C.due("9 a long one is spent", 1, y.designed(0));
        C.due("9 after all steps", 100000, y.designed(1));
        C.due("9 its gap", 2, y.gap());
    }

    private static void promise10Designed() {
        PatternColumns x = Made.foursAndSixes();
        C.index("10 designed(-1)", () -> x.designed(-1));
        C.index("10 index ahead of turn", () -> x.designed(2));
        C.turn("10 designed(0)", () -> x.designed(0));
        C.turn("10 designed(1)", () -> x.designed(1));
        x.design(2);
        C.due("10 spent without a design", 1, x.designed(0));
        C.due("10 two steps", 2, x.designed(1));
        x.design(100);
        C.due("10 the latest is not spent", 0, x.designed(0));
        C.due("10 its steps", 7, x.designed(1));
        C.index("10 designed(2)", () -> x.designed(2));
        x.pieces(0, 2);
        C.turn("10 told anew", () -> x.designed(1));
    }

    private static void promise11Gap() {
        PatternColumns x = Made.foursAndSixes();
        C.turn("11 no design", x::gap);
        x.design(3);
        C.due("11 three sheets", 1, x.gap());
        x.design(7);
        C.due("11 two sheets", 0, x.gap());
        x.design(2);
        C.turn("11 none was found", x::gap);
        PatternColumns y = new PatternColumns();
        y.order(60, 3);
        y.design(100);
        C.due("11 by widths alone", 1, y.gap());
        y.price(0, 1);
        C.due("11 the bound by prices is greater", 0, y.gap());
        PatternColumns z = new PatternColumns();
        z.order(50, 2);
        z.order(100, 1);
        z.price(0, 1);
        z.design(100);
        C.due("11 the widths are greater", 0, z.gap());
        PatternColumns none = new PatternColumns();
        none.design(0);
        C.due("11 a design without sheets", 0, none.gap());
    }

    private static void promise12Cut() {
        PatternColumns x = Made.foursAndSixes();
        C.turn("12 turn ahead of index", () -> x.cut(-1, 9));
        x.design(0);
        C.turn("12 none was found", () -> x.cut(0, 0));
        x.design(100);
        C.due("12 cut(0, 0)", 1, x.cut(0, 0));
        C.due("12 cut(1, 1)", 1, x.cut(1, 1));
        C.index("12 cut(2, 0)", () -> x.cut(2, 0));
        C.index("12 cut(-1, 0)", () -> x.cut(-1, 0));
        C.index("12 cut(0, 2)", () -> x.cut(0, 2));
        C.index("12 cut(0, -1)", () -> x.cut(0, -1));
        PatternColumns none = new PatternColumns();
        none.design(0);
        C.index("12 a design without sheets", () -> none.cut(0, 0));
    }

    private static void promise13Over() {
        PatternColumns x = Made.foursAndSixes();
        C.turn("13 turn ahead of index", () -> x.over(-1));
        x.design(3);
        C.due("13 over(0)", 2, x.over(0));
        C.due("13 over(1)", 4, x.over(1));
        C.due("13 over(2)", 4, x.over(2));
        C.index("13 over(3)", () -> x.over(3));
        C.index("13 over(-1)", () -> x.over(-1));
        x.design(7);
        C.due("13 nothing over", 0, x.over(1));
        C.index("13 over(2)", () -> x.over(2));
    }

    private static void promise14Keep() {
        PatternColumns x = Made.foursAndSixes();
        C.turn("14 turn ahead of all", () -> x.keep(-1, -1));
        x.design(3);
        C.index("14 keep(3, 0)", () -> x.keep(3, 0));
        C.index("14 index ahead of range", () -> x.keep(-1, -1));
        C.range("14 day -1", () -> x.keep(0, -1));
        C.range("14 day 10000", () -> x.keep(0, 10000));
        C.due("14 keep(1, 0)", 0, x.keep(1, 0));
        C.due("14 keep(0, 9999)", 1, x.keep(0, 9999));
        C.due("14 the same pattern of another sheet", 0, x.keep(2, 5));
        C.due("14 twice", 2, x.kept(0, 5));
        C.due("14 the later day", 5, x.kept(0, 6));
        C.due("14 an earlier day", 0, x.keep(2, 4));
        C.due("14 three times", 3, x.kept(0, 5));
        C.due("14 the later day stays", 5, x.kept(0, 6));
        x.order(10, 1);
        x.design(100000);
        C.due("14 another pattern", 2, x.keep(0, 1));
        x.pieces(2, 0);
        x.design(3);
        C.due("14 the same with an order more", 0, x.keep(1, 1));
    }

    private static void promise14FortyKept() {
        PatternColumns x = Made.fiveNarrowOrders();
        for (int n = 0; n < 40; n++) {
            C.due("14 one more", n, keepCounts(x, n));
        }
        C.meaning("14 forty others are kept", () -> keepCounts(x, 40));
        C.due("14 the first again", 0, keepCounts(x, 0));
        C.due("14 the last again", 39, keepCounts(x, 39));
        C.due("14 counted again", 2, x.kept(39, 5));
        C.due("14 not counted for what was refused", 1, x.kept(38, 5));
        C.range("14 range ahead of meaning", () -> {
            x.pieces(0, 6);
            x.design(1);
            x.keep(0, 10000);
        });
        C.index("14 no forty-first", () -> x.kept(40, 0));
    }

    /** The n-th way to have pieces of orders 0 and 1 (all others have one) on a single sheet. */
    private static int keepCounts(PatternColumns x, int n) {
        x.pieces(0, n / 7);
        x.pieces(1, n % 7);
        x.design(1);
        return x.keep(0, n);
    }

    private static void promise15Kept() {
        PatternColumns x = Made.fiveNarrowOrders();
        for (int i = 0; i < 5; i++) {
            x.pieces(i, 5 - i);
        }
        x.design(1);
        C.index("15 kept(0, 0)", () -> x.kept(0, 0));
        x.keep(0, 1234);
        for (int i = 0; i < 5; i++) {
            C.due("15 kept(0, " + i + ")", 5 - i, x.kept(0, i));
        }
        C.due("15 kept(0, 5)", 1, x.kept(0, 5));
        C.due("15 kept(0, 6)", 1234, x.kept(0, 6));
        C.index("15 kept(0, 7)", () -> x.kept(0, 7));
        C.index("15 kept(0, -1)", () -> x.kept(0, -1));
        C.index("15 kept(1, 0)", () -> x.kept(1, 0));
        C.index("15 kept(-1, 0)", () -> x.kept(-1, 0));
        x.pieces(0, 0);
        x.design(1);
        C.due("15 what is kept stays", 5, x.kept(0, 0));
        PatternColumns y = Made.foursAndSixes();
        y.design(7);
        y.keep(0, 3);
        C.due("15 an order that there is not", 0, y.kept(0, 4));
    }

    private static void promise16Fitting() {
        PatternColumns x = Made.foursAndSixes();
        C.index("16 fitting(-1)", () -> x.fitting(-1));
        C.index("16 fitting(min)", () -> x.fitting(Integer.MIN_VALUE));
        x.design(3);
        x.keep(0, 1);
        x.keep(1, 1);
        x.design(7);
        x.keep(0, 1);
        fits("16 all", x, 0, 1, 2);
        C.due("16 fitting(max)", -1, x.fitting(Integer.MAX_VALUE));
        x.pieces(0, 1);
        fits("16 one of order 0", x, 1, 2);
        x.pieces(1, 0);
        fits("16 none of order 1", x);
        x.pieces(0, 2);
        fits("16 only of order 0", x, 0);
        x.pieces(1, 6);
        x.sheet(9);
        fits("16 sheets of 9", x, 0, 1);
        x.sheet(8);
        fits("16 just as wide", x, 0, 1);
        x.sheet(7);
        fits("16 sheets of 7", x, 1);
        x.order(1, 1);
        fits("16 an order more", x, 1);
    }

    private static void fits(String call, PatternColumns x, int... want) {
        for (int i = 0; i < want.length; i++) {
            C.due(call + ": fitting(" + i + ")", want[i], x.fitting(i));
        }
        C.due(call + ": not so many", -1, x.fitting(want.length));
        C.due(call + ": by far not so many", -1, x.fitting(want.length + 50));
    }

    private static void whatIsToldEndsTheDesign() {
        for (int how = 0; how < 3; how++) {
            PatternColumns x = Made.foursAndSixes();
            x.design(100);
            if (how == 0) {
                x.sheet(10);
            } else if (how == 1) {
                x.order(4, 0);
            } else {
                x.pieces(1, 2);
            }
            C.turn("told " + how + ": designed(0)", () -> x.designed(0));
            C.turn("told " + how + ": gap()", x::gap);
            C.turn("told " + how + ": cut(0, 0)", () -> x.cut(0, 0));
            C.turn("told " + how + ": over(0)", () -> x.over(0));
            C.turn("told " + how + ": keep(0, 0)", () -> x.keep(0, 0));
            C.due("told " + how + ": design(7)", 2, x.design(7));
        }
    }

    private static void whatIsRefusedChangesNothing() {
        PatternColumns x = Made.foursAndSixes();
        x.price(0, 2);
        x.price(1, 1);
        x.design(7);
        C.range("sheet(0)", () -> x.sheet(0));
        C.range("order(0, 1)", () -> x.order(0, 1));
        C.range("order(1, 7)", () -> x.order(1, 7));
        C.range("pieces(0, 7)", () -> x.pieces(0, 7));
        C.index("pieces(2, 1)", () -> x.pieces(2, 1));
        C.range("price(0, 1001)", () -> x.price(0, 1001));
        C.range("design(-1)", () -> x.design(-1));
        C.range("keep(0, 10000)", () -> x.keep(0, 10000));
        C.due("the design stays", 1, x.cut(1, 1));
        C.due("designed stays", 7, x.designed(1));
        C.due("the column stays", 4, x.column());
        C.index("nothing was kept", () -> x.kept(0, 0));
        C.index("no order came", () -> x.columnOf(2));
        x.order(1, 0);
        x.order(1, 0);
        x.order(1, 0);
        x.design(7);
        C.turn("a sixth order", () -> x.order(1, 1));
        C.due("the design stays", 2, x.design(7));
        C.due("no piece came", 4, x.column());
    }

    private PromisesTest() {
    }
}
