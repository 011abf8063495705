/** Objects in the states that the tests begin with, each made anew. */
final class Made {
    /** Sheets of 10 with two pieces of 4 and two of 6: three sheets are found first, two at last. */
    static PatternColumns foursAndSixes() {
        PatternColumns x = new PatternColumns();
        x.sheet(10);
        x.order(4, 2);
        x.order(6, 2);
        return x;
    }

    /** One piece of width 1 of each order, so a design is one pattern with all pieces. */
    static PatternColumns fiveNarrowOrders() {
        PatternColumns x = new PatternColumns();
        for (int i = 0; i < 5; i++) {
            x.order(1, 1);
        }
        return x;
    }

    /** Two orders with prices, a design of two like sheets, its pattern kept. */
    static PatternColumns designed() {
        PatternColumns x = foursAndSixes();
        x.price(0, 3);
        x.price(1, 5);
        x.design(100);
        x.keep(0, 50);
        return x;
    }

    /** All orders that there may be, with prices, a design of three unlike sheets, two of them kept. */
    static PatternColumns fiveOrders() {
        PatternColumns x = new PatternColumns();
        x.sheet(20);
        for (int i = 0; i < 5; i++) {
            x.order(3 + i, 2);
            x.price(i, 9 - i);
        }
        x.design(100);
        x.keep(0, 50);
        x.keep(1, 60);
        return x;
    }

    /** Designing was spent ahead of the first design. */
    static PatternColumns spent() {
        PatternColumns x = foursAndSixes();
        x.design(2);
        return x;
    }

    /** A design without sheets. */
    static PatternColumns nothingToCut() {
        PatternColumns x = new PatternColumns();
        x.order(4, 0);
        x.design(10);
        return x;
    }

    /** A piece is wider than a sheet; what was kept stays. */
    static PatternColumns tooWide() {
        PatternColumns x = designed();
        x.sheet(5);
        return x;
    }

    /** Forty patterns are kept, all of one sheet; the design has another one. Takes 133 calls. */
    static PatternColumns fortyKept() {
        PatternColumns x = fiveNarrowOrders();
        int day = 0;
        for (int a = 0; a < 6; a++) {
            x.pieces(0, a);
            for (int b = 0; b < 7 && day < 40; b++) {
                x.pieces(1, b);
                x.design(1);
                x.keep(0, 100 + day);
                day++;
            }
        }
        x.pieces(1, 6);
        x.design(1);
        return x;
    }

    private Made() {
    }
}
