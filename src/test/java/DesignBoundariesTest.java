/**
 * As BoundariesTest, for designing, the gap, kept patterns and what fits: one method for each
 * sentence of the document that names a boundary case.
 */
public final class DesignBoundariesTest {
    private static final Check C = new Check();
    private static final int MAX = Integer.MAX_VALUE;

    public static void main(String[] args) {
        designOfNothing();
        givenUpWhenNotBelow();
        notGivenUpWhenBelow();
        givenUpByWidthsRoundedUp();
        notGivenUpAheadOfTheFirst();
        theFirstOfTheSameStays();
        patternsHaveThePieceOfTheLowestOrder();
        patternsOfWhatIsLeft();
        patternsInTheirOrder();
        fewestSteps();
        mostSteps();
        mostStepsNearTheFirstSheet();
        spentAheadOfAStep();
        notSpentBehindTheLastStep();
        piecesAsWideAsASheet();
        noPiecesThatAreTooWide();
        noneWasFound();
        fewestAndMostSheets();
        gapByWidthsRoundedUp();
        gapByTheGreaterOne();
        gapOfTheBestOne();
        gapOfNothing();
        designStaysBesideAllElse();
        designGoesWithOrders();
        designGoesWithNumbers();
        designGoesWithTheWidth();
        designGoesWithTheNextOne();
        overOfASheet();
        cutOfTheLast();
        earliestDay();
        latestDay();
        keptAlready();
        theLaterDay();
        keptAlreadyWithAllItsNumbers();
        keptAlreadyAheadOfANewOrder();
        atMostFortyKept();
        keptWhats();
        keptStays();
        fittingNotSoMany();
        fittingByPieces();
        fittingByTheWidth();
        fittingOfAll();
        C.end("DesignBoundariesTest");
    }

    private static PatternColumns sheets(int width) {
        PatternColumns x = new PatternColumns();
        x.sheet(width);
        return x;
    }

    /** Designs with all steps: the sheets, and the steps that were taken. */
    private static void designs(String name, PatternColumns x, int sheets, int steps) {
        C.due(name + ": sheets", sheets, x.design(100000));
        C.due(name + ": spent", 0, x.designed(0));
        C.due(name + ": steps", steps, x.designed(1));
    }

    /** "When nothing is left it is the best one so far": at once, without a step and without a sheet. */
    private static void designOfNothing() {
        PatternColumns x = new PatternColumns();
        designs("no orders", x, 0, 0);
        C.due("no orders, no steps", 0, x.design(0));
        C.due("not spent", 0, x.designed(0));
        x.order(1, 0);
        designs("no pieces", x, 0, 0);
        C.due("no pieces, no steps", 0, x.design(0));
        C.due("not spent", 0, x.designed(0));
    }

    /**
     * "given up when k and (..) are not below the sheets of the best one found": two, one is found
     * (two sheets); one first leaves 10 of width, 1 + 1 is not below 2.
     */
    private static void givenUpWhenNotBelow() {
        PatternColumns x = sheets(10);
        x.order(5, 3);
        designs("three of 5", x, 2, 3);
        x.pieces(0, 5);
        designs("five of 5", x, 3, 5);
    }

    /** Below by one it is not given up: 1 + 1 is below 3, and two sheets are found. */
    private static void notGivenUpWhenBelow() {
        designs("fours and sixes", Made.foursAndSixes(), 2, 7);
    }

    /** "over the sheet's width, rounded up": 2 and 5 over 10 are not below 3, but 2 would be. */
    private static void givenUpByWidthsRoundedUp() {
        PatternColumns x = sheets(10);
        x.order(5, 4);
        x.order(1, 1);
        designs("21 of width", x, 3, 7);
        PatternColumns y = sheets(10);
        y.order(9, 1);
        y.order(1, 1);
        y.order(2, 1);
        designs("12 of width", y, 2, 3);
    }

    /** While no design is found none is given up, however many sheets it needs. */
    private static void notGivenUpAheadOfTheFirst() {
        PatternColumns x = sheets(1000);
        for (int i = 0; i < 5; i++) {
            x.order(1000, 6);
        }
        designs("thirty wide pieces", x, 30, 30);
    }

    /** Of designs with as many sheets the first one is the best: a later one is given up. */
    private static void theFirstOfTheSameStays() {
        PatternColumns x = sheets(10);
        x.order(5, 2);
        x.order(5, 2);
        C.due("two sheets", 2, x.design(100));
        C.due("both of order 0 first", 2, x.cut(0, 0));
        C.due("then both of order 1", 2, x.cut(1, 1));
    }

    /** "(that have a piece of the lowest order of which some are left)". */
    private static void patternsHaveThePieceOfTheLowestOrder() {
        PatternColumns x = sheets(10);
        x.order(5, 1);
        x.order(5, 1);
        designs("order 0 is the lowest", x, 1, 2);
        PatternColumns y = sheets(10);
        y.order(5, 0);
        y.order(5, 1);
        y.order(5, 1);
        designs("order 1 is the lowest", y, 1, 2);
        PatternColumns z = sheets(10);
        for (int i = 0; i < 4; i++) {
            z.order(10, 0);
        }
        z.order(5, 2);
        designs("order 4 is the lowest", z, 1, 2);
    }

    /** "all patterns of what is left": not of what was there at first. */
    private static void patternsOfWhatIsLeft() {
        PatternColumns x = sheets(10);
        x.order(4, 3);
        C.due("two and one", 2, x.design(2));
        C.due("two at first", 2, x.cut(0, 0));
        C.due("one is left", 1, x.cut(1, 0));
        x.pieces(0, 1);
        C.due("one alone", 1, x.design(2));
        C.due("on its sheet", 1, x.cut(0, 0));
    }

    /** "those with more pieces of order 0 first, of the same those with more of order 1, and so on". */
    private static void patternsInTheirOrder() {
        PatternColumns x = sheets(10);
        x.order(2, 2);
        x.order(3, 2);
        x.order(1, 2);
        x.order(5, 1);
        int[][] want = {{2, 2, 0, 0}, {0, 0, 2, 1}};
        C.due("two sheets", 2, x.design(2));
        for (int k = 0; k < 2; k++) {
            for (int i = 0; i < 4; i++) {
                C.due("cut(" + k + ", " + i + ")", want[k][i], x.cut(k, i));
            }
        }
    }

    /** "Designs with so many steps (0 .. ". */
    private static void fewestSteps() {
        PatternColumns x = new PatternColumns();
        x.order(1, 1);
        C.due("design(0)", -1, x.design(0));
        C.due("it is spent", 1, x.designed(0));
        C.due("no step was taken", 0, x.designed(1));
        C.due("design(1)", 1, x.design(1));
        C.due("it is not spent", 0, x.designed(0));
        C.due("one step was taken", 1, x.designed(1));
    }

    /** "(.. 100,000)": a long designing takes them all, with one less it takes one less. */
    private static void mostSteps() {
        PatternColumns x = new PatternColumns();
        for (int width : new int[] {44, 52, 22, 56, 49}) {
            x.order(width, 6);
        }
        C.takes("design(99999)", () -> x.design(99999));
        C.due("one less", 99999, x.designed(1));
        C.due("it is spent", 1, x.designed(0));
        C.takes("design(100000)", () -> x.design(100000));
        C.due("all of them", 100000, x.designed(1));
        C.due("it is spent", 1, x.designed(0));
    }

    /** Nearly as many patterns were taken back as were tried when the last of all steps is taken. */
    private static void mostStepsNearTheFirstSheet() {
        PatternColumns x = narrowBesideWide(62);
        C.due("four sheets", 4, x.design(100000));
        C.due("it is spent", 1, x.designed(0));
        C.due("all steps", 100000, x.designed(1));
        designs("fewer steps than there may be", narrowBesideWide(63), 4, 88425);
    }

    private static PatternColumns narrowBesideWide(int width) {
        PatternColumns x = new PatternColumns();
        for (int i = 0; i < 4; i++) {
            x.order(1, 6);
        }
        x.order(width, 4);
        return x;
    }

    /** "when no step is left ahead of one, designing stops: SPENT": what was found ahead of it stays. */
    private static void spentAheadOfAStep() {
        int[] sheets = {-1, -1, -1, 3, 3, 2, 2};
        PatternColumns x = Made.foursAndSixes();
        for (int n = 0; n < sheets.length; n++) {
            C.due("design(" + n + ")", sheets[n], x.design(n));
            C.due("spent of " + n, 1, x.designed(0));
            C.due("steps of " + n, n, x.designed(1));
        }
    }

    /** Not spent: behind the last step no other pattern stands. */
    private static void notSpentBehindTheLastStep() {
        PatternColumns x = Made.foursAndSixes();
        for (int n = 7; n < 10; n++) {
            C.due("design(" + n + ")", 2, x.design(n));
            C.due("spent of " + n, 0, x.designed(0));
            C.due("steps of " + n, 7, x.designed(1));
        }
    }

    /** "Pieces wider than a sheet can't be cut": those just as wide can. */
    private static void piecesAsWideAsASheet() {
        PatternColumns x = sheets(77);
        x.order(77, 2);
        C.due("as wide", 2, x.design(10));
        C.due("nothing is over", 0, x.over(1));
        x.order(78, 1);
        C.meaning("wider by one", () -> x.design(10));
        x.sheet(78);
        C.due("wider sheets", 3, x.design(10));
    }

    /** "some piece is wider than a sheet": an order without pieces has none. */
    private static void noPiecesThatAreTooWide() {
        PatternColumns x = new PatternColumns();
        x.order(1000, 0);
        x.order(10, 1);
        x.order(101, 0);
        C.due("the narrow piece", 1, x.design(10));
        x.pieces(2, 1);
        C.meaning("now there is one", () -> x.design(10));
        x.pieces(2, 0);
        C.due("and now none", 1, x.design(10));
    }

    /** "-1 when none was found": there is no design then, but there was a designing. */
    private static void noneWasFound() {
        PatternColumns x = Made.foursAndSixes();
        C.due("too few steps", -1, x.design(2));
        C.turn("no gap", x::gap);
        C.turn("no cut", () -> x.cut(0, 0));
        C.turn("no over", () -> x.over(0));
        C.turn("no keep", () -> x.keep(0, 0));
        C.due("it was spent", 1, x.designed(0));
    }

    /** One sheet for all pieces that there may be, and one for each. */
    private static void fewestAndMostSheets() {
        PatternColumns x = sheets(30);
        for (int i = 0; i < 5; i++) {
            x.order(1, 6);
        }
        C.due("one sheet", 1, x.design(100000));
        C.due("nothing is over", 0, x.over(0));
        x.sheet(29);
        C.due("one does not fit", 2, x.design(2));
        C.due("it is the last one", 1, x.cut(1, 4));
        x.sheet(1);
        C.due("thirty sheets", 30, x.design(30));
        C.due("no step more", 0, x.designed(0));
    }

    /** "with S the widths of all pieces, summed, over the sheet's width, rounded up". */
    private static void gapByWidthsRoundedUp() {
        PatternColumns x = sheets(10);
        x.order(5, 4);
        x.design(100);
        C.due("20 over 10", 0, x.gap());
        x.order(1, 1);
        x.design(100);
        C.due("21 over 10 is rounded up", 0, x.gap());
        PatternColumns y = sheets(10);
        y.order(6, 5);
        y.design(100);
        C.due("five sheets less 30 over 10", 2, y.gap());
        y.sheet(11);
        y.design(100);
        C.due("five sheets less 30 over 11", 2, y.gap());
    }

    /** "less the greater one of S and the bound by prices". */
    private static void gapByTheGreaterOne() {
        PatternColumns x = sheets(10);
        x.order(6, 5);
        x.order(1, 1);
        x.design(100);
        C.due("S is 4, no bound", 1, x.gap());
        x.price(1, 1);
        C.due("S is 4, the bound 1", 1, x.gap());
        x.price(0, 2);
        C.due("S is 4, the bound 11 over 3", 1, x.gap());
        x.price(0, 5);
        C.due("S is 4, the bound 26 over 6", 0, x.gap());
    }

    /** "the sheets of the best design": of what the latest designing found. */
    private static void gapOfTheBestOne() {
        PatternColumns x = Made.foursAndSixes();
        x.design(4);
        C.due("three sheets", 1, x.gap());
        x.design(5);
        C.due("two sheets", 0, x.gap());
        x.design(3);
        C.due("three sheets again", 1, x.gap());
    }

    /** A design without sheets is one. */
    private static void gapOfNothing() {
        PatternColumns x = new PatternColumns();
        x.design(0);
        C.due("no orders", 0, x.gap());
        PatternColumns y = Made.nothingToCut();
        C.due("no pieces", 0, y.gap());
        y.price(0, 1000);
        C.due("no pieces at a price", 0, y.gap());
    }

    /** "A design stays until orders, numbers, or the sheet's width are told anew": all else leaves it. */
    private static void designStaysBesideAllElse() {
        PatternColumns x = Made.foursAndSixes();
        x.design(3);
        x.price(0, 1000);
        x.price(1, 0);
        x.column();
        x.bound();
        x.gap();
        x.keep(0, 1);
        x.fitting(0);
        C.range("refused sheet", () -> x.sheet(0));
        C.range("refused order", () -> x.order(0, 0));
        C.range("refused pieces", () -> x.pieces(0, 7));
        C.range("refused design", () -> x.design(-1));
        C.due("cut(0, 0)", 2, x.cut(0, 0));
        C.due("over(2)", 4, x.over(2));
        C.due("designed(0)", 1, x.designed(0));
        C.due("designed(1)", 3, x.designed(1));
    }

    private static void goes(String name, PatternColumns x) {
        C.turn(name + ": designed(0)", () -> x.designed(0));
        C.turn(name + ": designed(1)", () -> x.designed(1));
        C.turn(name + ": gap()", x::gap);
        C.turn(name + ": cut(0, 0)", () -> x.cut(0, 0));
        C.turn(name + ": over(0)", () -> x.over(0));
        C.turn(name + ": keep(0, 0)", () -> x.keep(0, 0));
    }

    /** "until orders .. are told anew". */
    private static void designGoesWithOrders() {
        PatternColumns x = Made.designed();
        x.order(3, 1);
        goes("one more order", x);
        PatternColumns y = Made.designed();
        y.order(3, 0);
        goes("one more without pieces", y);
        PatternColumns z = Made.spent();
        z.order(3, 1);
        goes("behind a spent one", z);
    }

    /** "until .. numbers .. are told anew": be it the same one. */
    private static void designGoesWithNumbers() {
        PatternColumns x = Made.designed();
        x.pieces(0, 1);
        goes("another number", x);
        PatternColumns y = Made.designed();
        y.pieces(1, 2);
        goes("the same number", y);
        PatternColumns z = Made.spent();
        z.pieces(1, 1);
        goes("behind a spent one", z);
    }

    /** "until .. the sheet's width are told anew": be it the same one. */
    private static void designGoesWithTheWidth() {
        PatternColumns x = Made.designed();
        x.sheet(11);
        goes("another width", x);
        PatternColumns y = Made.designed();
        y.sheet(10);
        goes("the same width", y);
        PatternColumns z = Made.spent();
        z.sheet(12);
        goes("behind a spent one", z);
    }

    /** "Of the latest designing": a new one takes the place of the one ahead of it. */
    private static void designGoesWithTheNextOne() {
        PatternColumns x = Made.foursAndSixes();
        x.design(100);
        x.design(3);
        C.due("three sheets now", 4, x.over(2));
        C.due("its steps", 3, x.designed(1));
        C.due("none found now", -1, x.design(0));
        C.turn("no design now", () -> x.cut(0, 0));
        C.due("its steps", 0, x.designed(1));
    }

    /** "What is left over of a sheet's width": nothing, and nearly all. */
    private static void overOfASheet() {
        PatternColumns x = sheets(1000);
        x.order(1, 1);
        x.design(1);
        C.due("nearly all", 999, x.over(0));
        x.order(999, 1);
        x.design(1);
        C.due("nothing", 0, x.over(0));
    }

    /** "no such sheet of it (0 first), or order": the last ones there are. */
    private static void cutOfTheLast() {
        PatternColumns x = sheets(1);
        for (int i = 0; i < 5; i++) {
            x.order(1, 6);
        }
        x.design(30);
        C.due("cut(0, 0)", 1, x.cut(0, 0));
        C.due("cut(0, 4)", 0, x.cut(0, 4));
        C.due("cut(29, 0)", 0, x.cut(29, 0));
        C.due("cut(29, 4)", 1, x.cut(29, 4));
        C.due("over(29)", 0, x.over(29));
        C.due("keep(29, 1)", 0, x.keep(29, 1));
        C.index("cut(30, 0)", () -> x.cut(30, 0));
        C.index("over(30)", () -> x.over(30));
        C.index("keep(30, 1)", () -> x.keep(30, 1));
    }

    /** "KEPT by a day (0 .. ". */
    private static void earliestDay() {
        PatternColumns x = Made.foursAndSixes();
        x.design(7);
        C.due("keep(0, 0)", 0, x.keep(0, 0));
        C.due("its day", 0, x.kept(0, 6));
        C.due("keep(0, 1)", 0, x.keep(0, 1));
        C.due("the later one", 1, x.kept(0, 6));
    }

    /** "KEPT by a day (.. 9,999)". */
    private static void latestDay() {
        PatternColumns x = Made.foursAndSixes();
        x.design(7);
        C.due("keep(0, 9999)", 0, x.keep(0, 9999));
        C.due("its day", 9999, x.kept(0, 6));
        C.due("keep(0, 9998)", 0, x.keep(0, 9998));
        C.due("the later one stays", 9999, x.kept(0, 6));
    }

    /** "one that is kept already .. is only counted once more". */
    private static void keptAlready() {
        PatternColumns x = Made.foursAndSixes();
        x.design(3);
        C.due("sheet 1", 0, x.keep(1, 10));
        C.due("once", 1, x.kept(0, 5));
        C.due("sheet 2 has the same pattern", 0, x.keep(2, 10));
        C.due("twice", 2, x.kept(0, 5));
        C.due("sheet 0 has another", 1, x.keep(0, 10));
        C.due("once", 1, x.kept(1, 5));
        C.due("not counted there", 2, x.kept(0, 5));
        C.index("no third one", () -> x.kept(2, 0));
    }

    /** "its day is the later one": an earlier one, the same one, a later one by a day. */
    private static void theLaterDay() {
        int[] days = {10, 9, 10, 11, 0, 11, 12};
        int[] later = {10, 10, 10, 11, 11, 11, 12};
        PatternColumns x = Made.foursAndSixes();
        x.design(7);
        for (int n = 0; n < days.length; n++) {
            x.keep(0, days[n]);
            C.due("behind day " + days[n], later[n], x.kept(0, 6));
            C.due("so often", n + 1, x.kept(0, 5));
        }
    }

    /** "(with all its numbers)": one that differs in any one order, by one piece, is another. */
    private static void keptAlreadyWithAllItsNumbers() {
        PatternColumns x = Made.fiveNarrowOrders();
        x.design(1);
        C.due("the first one", 0, x.keep(0, 1));
        for (int i = 0; i < 5; i++) {
            x.pieces(i, 2);
            x.design(1);
            C.due("another by order " + i, i + 1, x.keep(0, 1));
            x.pieces(i, 1);
        }
        x.design(1);
        C.due("the first one again", 0, x.keep(0, 1));
        C.due("twice", 2, x.kept(0, 5));
        C.due("the last one once", 1, x.kept(5, 5));
    }

    /** An order that came later has no piece in what was kept ahead of it, and what has none is the same. */
    private static void keptAlreadyAheadOfANewOrder() {
        PatternColumns x = sheets(10);
        x.order(10, 1);
        x.design(1);
        C.due("the first one", 0, x.keep(0, 1));
        C.due("no piece of order 1", 0, x.kept(0, 1));
        x.order(10, 1);
        C.due("each on its sheet", 2, x.design(10));
        C.due("the same", 0, x.keep(0, 1));
        C.due("another", 1, x.keep(1, 1));
        C.due("it has a piece of order 1", 1, x.kept(1, 1));
    }

    /** "at most 40 patterns are kept": the fortieth is, one that is kept already is counted. */
    private static void atMostFortyKept() {
        PatternColumns x = Made.fortyKept();
        C.due("the fortieth", 139, x.kept(39, 6));
        C.index("no other one", () -> x.kept(40, 0));
        C.meaning("a forty-first", () -> x.keep(0, 1));
        x.pieces(1, 4);
        x.design(1);
        C.due("the fortieth again", 39, x.keep(0, 9999));
        C.due("twice", 2, x.kept(39, 5));
        C.due("the later day", 9999, x.kept(39, 6));
        x.pieces(0, 0);
        x.pieces(1, 0);
        x.design(1);
        C.due("the first again", 0, x.keep(0, 0));
        C.due("twice", 2, x.kept(0, 5));
        C.due("the later day stays", 100, x.kept(0, 6));
        C.index("still no other one", () -> x.kept(40, 0));
    }

    /** "0 .. 4 the pieces of orders, 5 how often it was kept, 6 its day". */
    private static void keptWhats() {
        PatternColumns x = Made.fiveNarrowOrders();
        for (int i = 0; i < 5; i++) {
            x.pieces(i, 6 - i);
        }
        x.design(1);
        x.keep(0, 20);
        x.keep(0, 30);
        int[] want = {6, 5, 4, 3, 2, 2, 30};
        for (int what = 0; what < 7; what++) {
            C.due("kept(0, " + what + ")", want[what], x.kept(0, what));
        }
        PatternColumns y = sheets(10);
        y.order(10, 1);
        y.design(1);
        y.keep(0, 40);
        C.due("orders that there are not have no pieces", 0, y.kept(0, 1));
        C.due("nor has the last", 0, y.kept(0, 4));
    }

    /** What is kept stays, whatever is told or designed. */
    private static void keptStays() {
        PatternColumns x = Made.designed();
        x.sheet(1);
        x.pieces(0, 0);
        x.pieces(1, 0);
        x.order(1, 1);
        x.design(10);
        C.due("pieces of order 0", 1, x.kept(0, 0));
        C.due("pieces of order 1", 1, x.kept(0, 1));
        C.due("once", 1, x.kept(0, 5));
        C.due("its day", 50, x.kept(0, 6));
    }

    /** "-1 when there are not so many": none, one, and the greatest i. */
    private static void fittingNotSoMany() {
        PatternColumns none = new PatternColumns();
        C.due("none: fitting(0)", -1, none.fitting(0));
        C.due("none: fitting(max)", -1, none.fitting(MAX));
        PatternColumns one = Made.designed();
        C.due("one: fitting(0)", 0, one.fitting(0));
        C.due("one: fitting(1)", -1, one.fitting(1));
        C.due("one: fitting(max)", -1, one.fitting(MAX));
        one.sheet(9);
        C.due("none fits: fitting(0)", -1, one.fitting(0));
    }

    /** "that is one now (by what orders have": as many is enough, one less is not, of any order. */
    private static void fittingByPieces() {
        PatternColumns x = Made.fiveNarrowOrders();
        for (int i = 0; i < 5; i++) {
            x.pieces(i, 2);
        }
        x.design(1);
        x.keep(0, 1);
        C.due("as many", 0, x.fitting(0));
        for (int i = 0; i < 5; i++) {
            x.pieces(i, 1);
            C.due("one less of order " + i, -1, x.fitting(0));
            x.pieces(i, 3);
            C.due("one more of order " + i, 0, x.fitting(0));
        }
    }

    /** "and the sheet's width)": as wide as the sheet is one, one more is not. */
    private static void fittingByTheWidth() {
        PatternColumns x = Made.designed();
        C.due("as wide", 0, x.fitting(0));
        x.sheet(9);
        C.due("above it", -1, x.fitting(0));
        x.sheet(11);
        C.due("below it", 0, x.fitting(0));
        x.sheet(10);
        x.order(1000, 6);
        C.due("an order more, of which it has none", 0, x.fitting(0));
    }

    /** "The i-th kept pattern (0 first)": those that are none now are not counted; the last of forty. */
    private static void fittingOfAll() {
        PatternColumns x = Made.fortyKept();
        C.due("the first", 0, x.fitting(0));
        C.due("the last", 39, x.fitting(39));
        C.due("no other", -1, x.fitting(40));
        x.pieces(1, 3);
        C.due("those with up to 3 of order 1: the first", 0, x.fitting(0));
        C.due("the fourth", 3, x.fitting(3));
        C.due("the fifth", 7, x.fitting(4));
        C.due("the last", 38, x.fitting(23));
        C.due("no other", -1, x.fitting(24));
        x.pieces(0, 0);
        C.due("those without order 0: the last", 3, x.fitting(3));
        C.due("no other", -1, x.fitting(4));
        x.pieces(4, 0);
        C.due("none", -1, x.fitting(0));
    }

    private DesignBoundariesTest() {
    }
}
