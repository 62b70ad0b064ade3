import java.io.IOException;

/** The edges that promises 27 to 29 name: next, near, fills. */
public final class EdgesOfWriteTest {
    private static final int BAD = Edge.BAD, STATE = Edge.STATE, NONE = Edge.NONE, MIN = Edge.MIN, MAX = Edge.MAX;
    private static final int NOTHING = Edge.NOTHING, UNLIKE = Edge.UNLIKE, SIZE = Edge.SIZE;

    private static void next() {
        Edge.of(27, "Figures (bits) that, PUT at the right end, make a GUARD RECKON c (0 .. 10).", () -> {
            GuardFigures x = Due.house("g10 e10 g00 b12 d10", "");
            Edge.aside(x, 1, 0, "0 alone", () -> x.next(0, 0));
            Edge.aside(x, 1 << 9, 0, "9 alone", () -> x.next(0, 9));
            Edge.aside(x, 0, 0, "no GUARD RECKONS 10", () -> x.next(0, 10));
            Edge.aside(x, 0, 0, "no figure is 10", () -> x.next(1, 10));
            Edge.aside(x, 1023, 0, "all", () -> x.next(2, 0));
            Edge.aside(x, 1 | 1 << 5, 0, "twice and 1", () -> x.next(4, 1));
            x.add(1);
            Edge.aside(x, 1 << 9, 0, "10 by an ELEVEN", () -> x.next(1, 10));
            // the 1 comes to weight 3: 3 and f
            Edge.aside(x, 1, 0, "from behind", () -> x.next(3, 3));
            Edge.aside(x, 1 << 7, 0, "from behind, 10", () -> x.next(3, 10));
            Edge.aside(x, 1 << 9, 0, "from behind, 12 is 1", () -> x.next(3, 1));
            Due.write(x, "000000");
            Edge.aside(x, 1 << 8, 0, "the eighth", () -> x.next(0, 9));
        });
        Edge.of(27, "BAD;", () -> {
            GuardFigures none = new GuardFigures();
            Edge.refused(none, BAD, "next(0, 0) without GUARDS", () -> none.next(0, 0));
            GuardFigures x = Due.house("g10 e10", "1");
            Edge.refused(x, BAD, "next(2, 0)", () -> x.next(2, 0));
            Edge.refused(x, BAD, "next(-1, 0)", () -> x.next(-1, 0));
            Edge.refused(x, BAD, "next(0, 11)", () -> x.next(0, 11));
            Edge.refused(x, BAD, "next(0, -1)", () -> x.next(0, -1));
            Due.write(x, "2345678");
            Edge.refused(x, BAD, "next(2, 0), ahead of STATE", () -> x.next(2, 0));
            Edge.refused(x, BAD, "next(0, 11), ahead of STATE", () -> x.next(0, 11));
        });
        Edge.of(27, "STATE: there are 8 figures.", () -> {
            GuardFigures x = Due.house("g10 e10", "12345678");
            Edge.refused(x, STATE, "next(0, 0)", () -> x.next(0, 0));
            x.drop();
            Due.is("next(0, 0) of 7", x.next(0, 0), 1 << 2);
        });
    }

    private static void near() {
        Edge.of(28, "How few figures of THE NUMBER are to be others (0 .. 2) so that a GUARD RECKONS c", () -> {
            // by nines each figure but 0 has the cross sum 9
            GuardFigures x = Due.house("c90 e10", "000");
            Edge.aside(x, 0, 0, "none", () -> x.near(0, 0));
            Edge.aside(x, 1, 1, "one", () -> x.near(0, 9));
            Edge.aside(x, 2, 11, "two", () -> x.near(0, 8));
            Edge.aside(x, 2, 19, "10 by two", () -> x.near(1, 10));
            GuardFigures none = Due.house("d10 e10", "");
            Edge.aside(none, 0, 0, "without figures", () -> none.near(0, 0));
        });
        Edge.of(28, "THE NUMBER that is least of those then, as a number (its figures), by asked().", () -> {
            GuardFigures x = Due.house("g10 c90", "305");
            Edge.aside(x, 0, 305, "as it is", () -> x.near(0, 8));
            Edge.aside(x, 1, 205, "the first figure, less", () -> x.near(0, 7));
            Edge.aside(x, 1, 306, "the last figure, more", () -> x.near(0, 9));
            // 18 is 8; one 0 more is 27 or 9, two noughts 0
            Edge.aside(x, 2, 0, "all noughts", () -> x.near(1, 0));
            Edge.aside(x, 1, 5, "a nought ahead", () -> x.near(1, 9));
            Edge.aside(x, 1, 315, "the least other figure", () -> x.near(1, 7));
            GuardFigures y = Due.house("g10 e10", "99999999");
            Edge.aside(y, 0, 99999999, "8 figures", () -> y.near(0, 2));
            // 72 is 6; 10 is 4 more or 7 less
            Edge.aside(y, 1, 29999999, "8 figures, 10", () -> y.near(1, 10));
            // 5 is 10 more or 1 less
            Edge.aside(y, 1, 89999999, "8 figures, 5", () -> y.near(1, 5));
            // 7 is 1 more or 10 less: two figures, 1 and 9 less
            Edge.aside(y, 2, 8999999, "8 figures, 7", () -> y.near(1, 7));
        });
        Edge.of(28, "NONE: more than 2.", () -> {
            GuardFigures x = Due.house("c90 g00", "000");
            Due.row(x, 0, 77);
            x.at(0, 0);
            Edge.refused(x, NONE, "three could", () -> x.near(0, 7));
            Edge.refused(x, NONE, "none can", () -> x.near(1, 1));
            Edge.refused(x, NONE, "never 10", () -> x.near(0, 10));
            x.undo(0);
            Edge.refused(x, NONE, "without figures", () -> x.near(0, 9));
        });
        Edge.of(28, "BAD.", () -> {
            GuardFigures none = new GuardFigures();
            Edge.refused(none, BAD, "near(0, 0) without GUARDS", () -> none.near(0, 0));
            GuardFigures x = Due.house("g10 e10", "12");
            x.near(0, 3);
            Edge.refused(x, BAD, "near(2, 0)", () -> x.near(2, 0));
            Edge.refused(x, BAD, "near(-1, 0)", () -> x.near(-1, 0));
            Edge.refused(x, BAD, "near(0, 11)", () -> x.near(0, 11));
            Edge.refused(x, BAD, "near(0, -1)", () -> x.near(0, -1));
        });
    }

    private static void fills() {
        Edge.of(29, "In how many ways the smeared figures (-1; 3 at most) of a ROW of 1 to 8 figures can be filled in so that a"
            + " GUARD RECKONS c over it", () -> {
            GuardFigures x = Due.house("g00 g10 e10", "5");
            Due.row(x, 0, -1);
            Edge.aside(x, 10, 0, "1 figure, smeared", () -> x.fills(0, 0, 0));
            Edge.aside(x, 1, 9, "1 figure, 9", () -> x.fills(1, 9, 0));
            Due.row(x, 0, 7);
            Edge.aside(x, 1, 7, "1 figure, none smeared", () -> x.fills(1, 7, 0));
            Due.row(x, 5, -1, -1, -1);
            Edge.aside(x, 1000, 0, "3 smeared", () -> x.fills(0, 0, 5));
            Due.row(x, 5, -1, 0, 0, -1, 0, 0, 0, -1);
            Edge.aside(x, 1000, 0, "3 of 8 smeared", () -> x.fills(0, 0, 5));
            Edge.aside(x, 100, 0, "3 of 8 smeared, 0", () -> x.fills(1, 0, 5));
            // sums of 10: 63, of 21: 28
            Edge.aside(x, 91, 10009, "3 of 8 smeared, 10", () -> x.fills(2, 10, 5));
        });
        Edge.of(29, "the first (rising), as a number, by asked().", () -> {
            GuardFigures x = Due.house("g10 g01", "5");
            Due.row(x, 0, 0, -1, -1);
            Edge.aside(x, 10, 9, "noughts ahead", () -> x.fills(0, 9, 0));
            Due.row(x, 0, 9, -1, 9, -1, 9, 9, 9, -1);
            // 45 and 5 more, or 15, 25
            Edge.aside(x, 100, 90909995, "8 figures", () -> x.fills(0, 0, 0));
            Due.row(x, 0, -1, 1, -1);
            // weights 0, 1, 2: 1 and twice the last, 3 by 1 or 6
            Edge.aside(x, 20, 11, "a weight of 0", () -> x.fills(1, 3, 0));
        });
        Edge.of(29, "NONE: in none.", () -> {
            GuardFigures x = Due.house("g10 g00", "5");
            Due.row(x, 0, 1, -1, 3);
            Edge.refused(x, NONE, "never 1", () -> x.fills(1, 1, 0));
            Edge.refused(x, NONE, "never 10", () -> x.fills(0, 10, 0));
            Due.row(x, 0, 1, 2);
            Edge.refused(x, NONE, "none smeared, another check", () -> x.fills(0, 4, 0));
        });
        Edge.of(29, "BAD;", () -> {
            GuardFigures none = new GuardFigures();
            none.row(0, 1);
            Edge.refused(none, BAD, "without GUARDS", () -> none.fills(0, 0, 0));
            GuardFigures x = Due.house("g10 g00", "5");
            x.row(0, 1);
            Edge.refused(x, BAD, "fills(2, 0, 0)", () -> x.fills(2, 0, 0));
            Edge.refused(x, BAD, "fills(-1, 0, 0)", () -> x.fills(-1, 0, 0));
            Edge.refused(x, BAD, "fills(0, 11, 0)", () -> x.fills(0, 11, 0));
            Edge.refused(x, BAD, "fills(0, -1, 0)", () -> x.fills(0, -1, 0));
            Edge.refused(x, BAD, "fills(0, 0, 6)", () -> x.fills(0, 0, 6));
            Edge.refused(x, BAD, "fills(0, 0, -1)", () -> x.fills(0, 0, -1));
        });
        Edge.of(29, "NOTHING;", () -> {
            GuardFigures x = Due.house("g10 g00", "5");
            Edge.found(x, NOTHING, "fills(0, 0, 0)", () -> x.fills(0, 0, 0));
            Edge.found(x, NOTHING, "fills(0, 0, 5)", () -> x.fills(0, 0, 5));
        });
        Edge.of(29, "SIZE: none, more than 8;", () -> {
            GuardFigures x = Due.house("g10 g00", "5");
            x.row(0, 0);
            Edge.found(x, SIZE, "none", () -> x.fills(0, 0, 0));
            x.row(0, 9);
            Edge.found(x, SIZE, "9", () -> x.fills(0, 0, 0));
            x.row(0, 40);
            Edge.found(x, SIZE, "40", () -> x.fills(0, 0, 0));
            x.lay(0, 8, 99);
            x.row(0, 8);
            Edge.aside(x, 1, 0, "8, what stood behind them is gone", () -> x.fills(0, 0, 0));
        });
        Edge.of(29, "UNLIKE: a number that is no figure, nor -1, a fourth -1.", () -> {
            GuardFigures x = Due.house("g10 g00", "5");
            Due.row(x, 0, 0, 10);
            Edge.found(x, UNLIKE, "10", () -> x.fills(0, 0, 0));
            Due.row(x, 0, -2, 0);
            Edge.found(x, UNLIKE, "-2", () -> x.fills(0, 0, 0));
            Due.row(x, 0, MAX);
            Edge.found(x, UNLIKE, "MAX", () -> x.fills(0, 0, 0));
            Due.row(x, 0, 0, 0, 0, 0, 0, 0, 0, MIN);
            Edge.found(x, UNLIKE, "MIN, the eighth", () -> x.fills(0, 0, 0));
            Due.row(x, 0, -1, -1, -1, -1);
            Edge.found(x, UNLIKE, "a fourth -1", () -> x.fills(0, 0, 0));
            Due.row(x, 0, -1, -1, 0, 0, 0, 0, -1, -1);
            Edge.found(x, UNLIKE, "a fourth -1, the eighth", () -> x.fills(0, 0, 0));
        });
        Edge.of(29, "(In this order.)", () -> {
            GuardFigures x = Due.house("g10 g00", "5");
            Edge.refused(x, BAD, "BAD ahead of NOTHING", () -> x.fills(2, 0, 5));
            Edge.refused(x, BAD, "BAD ahead of NOTHING", () -> x.fills(0, 11, 5));
            Due.row(x, 0, -1, -1, -1, -1, -1, -1, -1, -1, 99);
            Edge.found(x, SIZE, "SIZE ahead of UNLIKE", () -> x.fills(0, 0, 0));
            Edge.refused(x, BAD, "BAD ahead of SIZE", () -> x.fills(0, -1, 0));
            Due.row(x, 0, 99);
            Edge.refused(x, BAD, "BAD ahead of UNLIKE", () -> x.fills(-1, 0, 0));
        });
    }

    public static void main(String[] args) throws IOException {
        next();
        near();
        fills();
        Edge.end(27, 29);
    }
}
