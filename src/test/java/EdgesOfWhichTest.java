import java.io.IOException;

/** The edges that promises 30 to 33 name: kinds, firsts, test, duel. */
public final class EdgesOfWhichTest {
    private static final int BAD = Edge.BAD, STATE = Edge.STATE, NONE = Edge.NONE, MIN = Edge.MIN, MAX = Edge.MAX;
    private static final int NOTHING = Edge.NOTHING, UNLIKE = Edge.UNLIKE, SIZE = Edge.SIZE;

    private static int ask(int promise, GuardFigures x, int i, int r) {
        return promise == 30 ? x.kinds(i, r) : promise == 31 ? x.firsts(i, r) : x.test(i, r);
    }

    private static void kinds() {
        Edge.of(30, "KINDS (bits) that a GUARD can be of (FIRST, STEP as they are).", () -> {
            GuardFigures x = Due.house("g10 d20 h73", "123");
            Due.row(x, 0, 9, 9);
            Edge.aside(x, 63, 0, "all", () -> x.kinds(0, 0));
            Due.row(x, 0, 1, 2);
            Edge.aside(x, 0, 0, "none", () -> x.kinds(0, 0));
            // 2 times 1; a CHAIN tells 1, a DOUBLE one 5
            Edge.aside(x, 1 | 1 << 1 | 1 << 2 | 1 << 4, 0, "by FIRST 2", () -> x.kinds(1, 0));
            Due.row(x, 5, 0, 0, 0, 0, 0, 0, 0, 0, 8);
            Edge.aside(x, 1 << 5, 0, "8 figures", () -> x.kinds(0, 5));
            Due.row(x, 5, 9, 5, 8, 10);
            Edge.aside(x, 1 << 1, 0, "10", () -> x.kinds(2, 5));
            Due.row(x, 5, 9, 5, 8, 6);
            Edge.aside(x, 1 << 4, 0, "BACK", () -> x.kinds(2, 5));
            Due.row(x, 5, 9, 5, 8, 5);
            Edge.aside(x, 1 << 2 | 1 << 3, 0, "CROSS and CHAIN", () -> x.kinds(2, 5));
        });
        refused(30);
        Edge.of(30, "SIZE: less than 2, more than 9;", () -> sizes(30));
        Edge.of(30, "UNLIKE.", () -> unlike(30));
        Edge.of(30, "(In this order.)", () -> order(30));
    }

    private static void firsts() {
        Edge.of(31, "FIRST weights (bits 0 .. 9) that it can have (KIND, STEP as they are).", () -> {
            GuardFigures x = Due.house("g10 e50 h91 b02 c34", "123");
            Due.row(x, 0, 0, 0);
            Edge.aside(x, 1023, 0, "all", () -> x.firsts(0, 0));
            Due.row(x, 0, 0, 1);
            Edge.aside(x, 0, 0, "none", () -> x.firsts(0, 0));
            Due.row(x, 0, 1, 9);
            Edge.aside(x, 1 << 9, 0, "9", () -> x.firsts(0, 0));
            Due.row(x, 0, 1, 0);
            Edge.aside(x, 1, 0, "0", () -> x.firsts(0, 0));
            Due.row(x, 0, 1, 10);
            Edge.aside(x, 0, 0, "no weight is 10", () -> x.firsts(1, 0));
            Due.row(x, 0, 5, 10);
            Edge.aside(x, 1 << 2, 0, "5 by 2 is 10", () -> x.firsts(1, 0));
            // 2 FIRST and 2 is 0 modulo 10
            Due.row(x, 0, 1, 1, 0);
            Edge.aside(x, 1 << 4 | 1 << 9, 0, "a CHAIN", () -> x.firsts(2, 0));
            // from behind the 1 stands at PLACE 1: FIRST and 2, modulo 10, is 1
            Due.row(x, 0, 1, 0, 1);
            Edge.aside(x, 1 << 9, 0, "a BACK one, by weight 1", () -> x.firsts(3, 0));
        });
        refused(31);
        Edge.of(31, "SIZE;", () -> sizes(31));
        Edge.of(31, "UNLIKE.", () -> unlike(31));
        Edge.of(31, "(In this order.)", () -> order(31));
    }

    private static void test() {
        Edge.of(32, "the greatest part of those that RECKON alike then is least (the first); that part by asked().", () -> {
            GuardFigures x = Due.house("g10 g20", "");
            Due.row(x, 0, 9, 9);
            Edge.aside(x, 0, 5, "5 of 6 at best", () -> x.test(0, 0));
            Due.row(x, 0, 8, 7);
            Edge.aside(x, 0, 1, "one KIND alone", () -> x.test(0, 0));
            Due.row(x, 0, 0, 0);
            // by twos: 10 is 0, 10, 1, 5, 10
            Edge.aside(x, 5, 2, "by twos", () -> x.test(1, 0));
            Due.write(x, "0000000");
            Edge.aside(x, 5, 2, "with 7 figures", () -> x.test(1, 0));
        });
        Edge.of(32, "NONE: there is no KIND.", () -> {
            GuardFigures x = Due.house("g10 g20", "");
            Due.row(x, 0, 9, 0);
            Edge.refused(x, NONE, "test(0, 0)", () -> x.test(0, 0));
        });
        refused(32);
        Edge.of(32, "STATE: there are 8 figures;", () -> {
            GuardFigures x = Due.house("g10 g20", "12345678");
            Due.row(x, 0, 9, 9);
            Edge.refused(x, STATE, "test(0, 0)", () -> x.test(0, 0));
            Due.row(x, 0, 9, 0);
            Edge.refused(x, STATE, "test(0, 0), ahead of NONE", () -> x.test(0, 0));
        });
        Edge.of(32, "SIZE;", () -> sizes(32));
        Edge.of(32, "UNLIKE.", () -> unlike(32));
        Edge.of(32, "(In this order.)", () -> {
            order(32);
            GuardFigures x = Due.house("g10 g20", "12345678");
            Edge.refused(x, BAD, "BAD ahead of STATE", () -> x.test(2, 0));
            Edge.refused(x, BAD, "BAD ahead of STATE", () -> x.test(0, 6));
            Edge.refused(x, STATE, "STATE ahead of NOTHING", () -> x.test(0, 0));
            Due.row(x, 0, 77);
            Edge.refused(x, STATE, "STATE ahead of SIZE", () -> x.test(0, 0));
            Due.row(x, 0, 77, 77);
            Edge.refused(x, STATE, "STATE ahead of UNLIKE", () -> x.test(0, 0));
        });
    }

    /** BAD and NOTHING are alike in all three. */
    private static void refused(int promise) {
        Edge.of(promise, "BAD;", () -> {
            GuardFigures none = new GuardFigures();
            Due.row(none, 0, 9, 9);
            Edge.refused(none, BAD, "without GUARDS", () -> ask(promise, none, 0, 0));
            GuardFigures x = Due.house("g10 g20", "1");
            Due.row(x, 0, 9, 9);
            Edge.refused(x, BAD, "GUARD 2", () -> ask(promise, x, 2, 0));
            Edge.refused(x, BAD, "GUARD -1", () -> ask(promise, x, -1, 0));
            Edge.refused(x, BAD, "ROW 6", () -> ask(promise, x, 0, 6));
            Edge.refused(x, BAD, "ROW -1", () -> ask(promise, x, 0, -1));
            Edge.refused(x, BAD, "ROW MAX", () -> ask(promise, x, 0, MAX));
        });
        Edge.of(promise, "NOTHING;", () -> {
            GuardFigures x = Due.house("g10 g20", "1");
            Edge.found(x, NOTHING, "ROW 0", () -> ask(promise, x, 0, 0));
            Edge.found(x, NOTHING, "ROW 5", () -> ask(promise, x, 1, 5));
        });
    }

    private static void sizes(int promise) {
        GuardFigures x = Due.house("g10 g20", "1");
        x.row(0, 0);
        Edge.found(x, SIZE, "none", () -> ask(promise, x, 0, 0));
        x.row(0, 1);
        Edge.found(x, SIZE, "1", () -> ask(promise, x, 0, 0));
        x.row(0, 10);
        Edge.found(x, SIZE, "10", () -> ask(promise, x, 0, 0));
        x.row(0, 40);
        Edge.found(x, SIZE, "40", () -> ask(promise, x, 0, 0));
        x.row(0, 2);
        Due.is("2", ask(promise, x, 0, 0) >= 0 ? 1 : 0, 1);
        x.row(0, 9);
        Due.is("9", ask(promise, x, 0, 0) >= 0 ? 1 : 0, 1);
    }

    private static void unlike(int promise) {
        GuardFigures x = Due.house("g10 g20", "1");
        int[][] rows = {{10, 0}, {-1, 0}, {0, 11}, {0, -1}, {0, 10, 0}, {MAX, 0}, {0, MIN}, {0, 0, 0, 0, 0, 0, 0, 10, 0}};
        for (int[] row : rows) {
            Due.row(x, 0, row);
            Edge.found(x, UNLIKE, java.util.Arrays.toString(row), () -> ask(promise, x, 0, 0));
        }
        Due.row(x, 0, 1, 9, 10);
        Due.is("9 and 10 are fine", ask(promise, x, 0, 0) != GuardFigures.FINDING ? 1 : 0, 1);
    }

    private static void order(int promise) {
        GuardFigures x = Due.house("g10 g20", "1");
        Edge.refused(x, BAD, "BAD ahead of NOTHING", () -> ask(promise, x, 2, 0));
        Due.row(x, 0, 77);
        Edge.refused(x, BAD, "BAD ahead of SIZE", () -> ask(promise, x, 2, 0));
        Edge.found(x, SIZE, "SIZE ahead of UNLIKE", () -> ask(promise, x, 0, 0));
        Due.row(x, 0, 77, 77, 77, 77, 77, 77, 77, 77, 77, 77);
        Edge.found(x, SIZE, "SIZE ahead of UNLIKE", () -> ask(promise, x, 0, 0));
        Due.row(x, 0, 77, 77);
        Edge.refused(x, BAD, "BAD ahead of UNLIKE", () -> ask(promise, x, -1, 0));
    }

    private static void duel() {
        Edge.of(33, "By n (0 .. 4) turns in all one PUTS a figure at the right end", () -> {
            GuardFigures x = Due.house("g10 e10", "34");
            Edge.aside(x, 7, 0, "no turn", () -> x.duel(0, 0));
            Edge.aside(x, 9, 0, "one turn", () -> x.duel(0, 1));
            Edge.aside(x, 0, 0, "four turns", () -> x.duel(0, 4));
            GuardFigures y = Due.house("g10 e10", "");
            Edge.aside(y, 0, 0, "without figures, no turn", () -> y.duel(0, 0));
            Edge.aside(y, 9, 0, "without figures, one turn", () -> y.duel(0, 1));
        });
        Edge.of(33, "(while there are not 8)", () -> {
            GuardFigures x = Due.house("g10 b10", "340000");
            Edge.aside(x, 0, 0, "6 figures: two turns are left", () -> x.duel(0, 3));
            Edge.aside(x, 0, 0, "6 figures: two turns are left of 4", () -> x.duel(0, 4));
            x.add(0);
            Edge.aside(x, 9, 0, "7 figures: one turn is left", () -> x.duel(0, 2));
            Edge.aside(x, 9, 0, "7 figures: one turn is left of 4", () -> x.duel(0, 4));
            x.add(0);
            Edge.aside(x, 7, 0, "8 figures: none is left", () -> x.duel(0, 1));
            Edge.aside(x, 7, 0, "8 figures: none is left of 4", () -> x.duel(1, 4));
        });
        Edge.of(33, "the first wanting it much, the other one little.", () -> {
            GuardFigures x = Due.house("e10 g00 h25", "34");
            Edge.aside(x, 10, 0, "much", () -> x.duel(0, 1));
            Edge.aside(x, 1, 0, "little: 1 can't become 0", () -> x.duel(0, 2));
            Edge.aside(x, 0, 0, "by no weight", () -> x.duel(1, 3));
            Edge.aside(x, 9, 0, "a CHAIN, much", () -> x.duel(2, 3));
            Edge.aside(x, 0, 0, "a CHAIN, little", () -> x.duel(2, 2));
        });
        Edge.of(33, "BAD.", () -> {
            GuardFigures none = new GuardFigures();
            Edge.refused(none, BAD, "duel(0, 0) without GUARDS", () -> none.duel(0, 0));
            GuardFigures x = Due.house("g10 e10", "12345678");
            Edge.refused(x, BAD, "duel(2, 0)", () -> x.duel(2, 0));
            Edge.refused(x, BAD, "duel(-1, 0)", () -> x.duel(-1, 0));
            Edge.refused(x, BAD, "duel(0, 5)", () -> x.duel(0, 5));
            Edge.refused(x, BAD, "duel(0, -1)", () -> x.duel(0, -1));
            Edge.refused(x, BAD, "duel(0, MAX)", () -> x.duel(0, MAX));
            Edge.refused(x, BAD, "duel(0, MIN)", () -> x.duel(0, MIN));
        });
    }

    public static void main(String[] args) throws IOException {
        kinds();
        firsts();
        test();
        duel();
        Edge.end(30, 33);
    }
}
