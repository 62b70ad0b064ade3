import java.io.IOException;

/** The edges that promises 8 to 14 name: text, put, fault, house, guard, mark, figure. */
public final class EdgesOfHousesTest {
    private static final int BAD = Edge.BAD, STATE = Edge.STATE, NONE = Edge.NONE, MIN = Edge.MIN, MAX = Edge.MAX;
    private static final int NOTHING = Edge.NOTHING, BEYOND = Edge.BEYOND, UNLIKE = Edge.UNLIKE, SIZE = Edge.SIZE;

    private static void text() {
        Edge.of(8, "A TEXT is there with n blanks: n.", () -> {
            GuardFigures x = new GuardFigures();
            Due.is("text(0, 0)", x.text(0, 0), 0);
            Due.is("count(7)", x.count(7), 1);
            Edge.found(x, BEYOND, "put(0, 0, 1) of none", () -> x.put(0, 0, 1));
            Due.is("text(3, 60)", x.text(3, 60), 60);
            for (int i = 0; i < 60; i++) {
                Due.is("put(3, " + i + ", 7)", x.put(3, i, 7), 1032);
            }
            Due.is("text(3, 60) anew", x.text(3, 60), 60);
            for (int i = 0; i < 60; i++) {
                Due.is("put(3, " + i + ", 7)", x.put(3, i, 7), 1032);
            }
            Due.is("text(3, 1) anew", x.text(3, 1), 1);
            Edge.found(x, BEYOND, "put(3, 1, 7)", () -> x.put(3, 1, 7));
        });
        Edge.of(8, "BAD: also n above 60", () -> {
            GuardFigures x = new GuardFigures();
            Due.text(x, 0, "g11");
            Edge.refused(x, BAD, "text(0, 61)", () -> x.text(0, 61));
            Edge.refused(x, BAD, "text(0, MAX)", () -> x.text(0, MAX));
            Edge.refused(x, BAD, "text(4, 1)", () -> x.text(4, 1));
            Edge.refused(x, BAD, "text(-1, 1)", () -> x.text(-1, 1));
            Edge.refused(x, BAD, "text(4, -1), ahead of SIZE", () -> x.text(4, -1));
        });
        Edge.of(8, "SIZE: below 0.", () -> {
            GuardFigures x = new GuardFigures();
            Due.text(x, 0, "g11");
            Edge.found(x, SIZE, "text(0, -1)", () -> x.text(0, -1));
            Edge.found(x, SIZE, "text(0, MIN)", () -> x.text(0, MIN));
            Edge.found(x, SIZE, "text(3, -1) of a missing one", () -> x.text(3, -1));
        });
    }

    private static void put() {
        Edge.of(9, "Byte i of a TEXT is v, cut to a byte", () -> {
            GuardFigures x = new GuardFigures();
            x.text(1, 6);
            int[] signs = {103 + 256, 49 - 256, 49 + 65536, 101 + MIN, 50, 50 - 512};
            for (int i = 0; i < 6; i++) {
                x.put(1, i, signs[i]);
            }
            Due.is("fault(1)", x.fault(1), NONE);
            x.put(1, 5, 50 + 128);
            Due.is("fault(1), 128 more", x.fault(1), 5);
        });
        Edge.of(9, "what it was, and 1000 more.", () -> {
            GuardFigures x = new GuardFigures();
            x.text(3, 60);
            int[] laid = {0, 127, 128, 255, 256, -1, -128, -129, MAX, MIN, 32};
            int[] was = {32, 0, 127, -128, -1, 0, -1, -128, 127, -1, 0};
            for (int i = 0; i < laid.length; i++) {
                Due.is("put(3, 59, " + laid[i] + ")", x.put(3, 59, laid[i]), 1000 + was[i]);
            }
            Due.is("put(3, 0, 5) at the first", x.put(3, 0, 5), 1032);
            Due.is("put(3, 58, 5) beside the last", x.put(3, 58, 5), 1032);
            Due.is("asked() is not told", x.asked(), 0);
        });
        Edge.of(9, "BAD;", () -> {
            GuardFigures x = new GuardFigures();
            x.text(0, 1);
            Edge.refused(x, BAD, "put(4, 0, 1)", () -> x.put(4, 0, 1));
            Edge.refused(x, BAD, "put(-1, 0, 1)", () -> x.put(-1, 0, 1));
            Edge.refused(x, BAD, "put(MAX, -1, 1)", () -> x.put(MAX, -1, 1));
        });
        Edge.of(9, "NOTHING;", () -> {
            GuardFigures x = new GuardFigures();
            x.text(0, 1);
            Edge.found(x, NOTHING, "put(1, 0, 1)", () -> x.put(1, 0, 1));
            Edge.found(x, NOTHING, "put(3, -1, 1), ahead of BEYOND", () -> x.put(3, -1, 1));
        });
        Edge.of(9, "BEYOND.", () -> {
            GuardFigures x = new GuardFigures();
            x.text(0, 2);
            Edge.found(x, BEYOND, "put(0, 2, 1)", () -> x.put(0, 2, 1));
            Edge.found(x, BEYOND, "put(0, -1, 1)", () -> x.put(0, -1, 1));
            Edge.found(x, BEYOND, "put(0, MAX, 1)", () -> x.put(0, MAX, 1));
            Edge.found(x, BEYOND, "put(0, MIN, 1)", () -> x.put(0, MIN, 1));
            x.text(1, 60);
            Edge.found(x, BEYOND, "put(1, 60, 1)", () -> x.put(1, 60, 1));
        });
    }

    private static void fault() {
        Edge.of(10, "A FAULT of a TEXT", () -> {
            GuardFigures x = new GuardFigures();
            Due.text(x, 0, "?11 e22");
            Due.is("at the first place", x.fault(0), 0);
            Due.text(x, 1, "g11 e2?");
            Due.is("at the last place", x.fault(1), 6);
            Due.text(x, 2, "g11 e2");
            Due.is("at its size", x.fault(2), 6);
            Due.text(x, 3, " ".repeat(60));
            Due.is("at the greatest size", x.fault(3), 60);
            Due.is("no HOUSE by it", x.count(0), 0);
            Due.is("it is no FINDING", x.finding(), 0);
        });
        Edge.of(10, "NONE: there is none.", () -> {
            GuardFigures x = new GuardFigures();
            Due.text(x, 3, "g11 e22");
            Edge.refused(x, NONE, "fault(3)", () -> x.fault(3));
        });
        Edge.of(10, "BAD;", () -> {
            GuardFigures x = new GuardFigures();
            Edge.refused(x, BAD, "fault(4)", () -> x.fault(4));
            Edge.refused(x, BAD, "fault(-1)", () -> x.fault(-1));
        });
        Edge.of(10, "NOTHING.", () -> {
            GuardFigures x = new GuardFigures();
            Edge.found(x, NOTHING, "fault(0)", () -> x.fault(0));
            Edge.found(x, NOTHING, "fault(3)", () -> x.fault(3));
            x.text(3, 0);
            Due.is("fault(3) of one without bytes", x.fault(3), 0);
        });
    }

    private static void house() {
        Edge.of(11, "A HOUSE by a TEXT (anew: no figures, no DEEDS; kept HOUSES go): how many GUARDS.", () -> {
            GuardFigures x = Due.house("g11 e22 c33 h44 b55 d66 g77", "123");
            x.keep(0);
            x.keep(1);
            x.keep(2);
            Due.text(x, 3, "h12 d34");
            Due.is("house(3)", x.house(3), 2);
            Edge.number(x, "house(3)", 0, 0, 0);
            Due.is("GUARDS", x.count(0), 2);
            Due.is("kept HOUSES", x.count(8), 0);
            for (int n = 0; n <= 2; n++) {
                int k = n;
                Edge.found(x, NOTHING, "on(" + k + ")", () -> x.on(k));
            }
            Edge.refused(x, BAD, "undo(1)", () -> x.undo(1));
            Edge.refused(x, BAD, "guard(2, 0)", () -> x.guard(2, 0));
            int[] due = {3, 1, 2, 0, 0};
            for (int what = 0; what <= 4; what++) {
                Due.told(x, "guard(0, " + what + ")", x.guard(0, what), 1, due[what]);
            }
            Due.is("add(5)", x.add(5), 1);
            Due.is("house(0)", x.house(0), 7);
            Edge.number(x, "house(0)", 0, 0, 0);
            x.text(0, 0);
            Due.is("the TEXT goes, the HOUSE stays", x.count(0), 7);
        });
        Edge.of(11, "BAD;", () -> {
            GuardFigures x = Due.house("g11 e22", "12");
            Edge.refused(x, BAD, "house(4)", () -> x.house(4));
            Edge.refused(x, BAD, "house(-1)", () -> x.house(-1));
        });
        Edge.of(11, "NOTHING;", () -> {
            GuardFigures x = Due.house("g11 e22", "12");
            Edge.found(x, NOTHING, "house(1)", () -> x.house(1));
            Edge.found(x, NOTHING, "house(3)", () -> x.house(3));
        });
        Edge.of(11, "STATE: a FAULT.", () -> {
            GuardFigures x = Due.house("g11 e22", "12");
            x.keep(1);
            x.text(1, 0);
            Edge.refused(x, STATE, "house(1) of none", () -> x.house(1));
            Due.text(x, 1, "c33");
            Edge.refused(x, STATE, "house(1) of one GUARD", () -> x.house(1));
            Due.text(x, 1, "c33 h44 b5");
            Edge.refused(x, STATE, "house(1) that ends too early", () -> x.house(1));
            Due.text(x, 1, "g11e22c33h44b55d66g77e88");
            Edge.refused(x, STATE, "house(1) of 8", () -> x.house(1));
        });
        Edge.of(11, "(STATE behind NOTHING.)", () -> {
            GuardFigures x = new GuardFigures();
            Edge.found(x, NOTHING, "house(0), missing", () -> x.house(0));
            x.text(0, 0);
            Edge.refused(x, STATE, "house(0), there", () -> x.house(0));
        });
    }

    private static void guard() {
        Edge.of(12, "0 the KIND, 1 FIRST, 2 STEP", () -> {
            GuardFigures x = Due.house("g09 e18 c27 h36 b45 d54 g90", "1");
            int[] kinds = {0, 1, 2, 3, 4, 5, 0};
            int[] firsts = {0, 1, 2, 3, 4, 5, 9};
            int[] steps = {9, 8, 7, 6, 5, 4, 0};
            for (int n = 0; n < 7; n++) {
                int i = n;
                Edge.aside(x, 1, kinds[i], "guard(" + i + ", 0)", () -> x.guard(i, 0));
                Edge.aside(x, 1, firsts[i], "guard(" + i + ", 1)", () -> x.guard(i, 1));
                Edge.aside(x, 1, steps[i], "guard(" + i + ", 2)", () -> x.guard(i, 2));
            }
        });
        Edge.of(12, "3 what it RECKONS over THE NUMBER", () -> {
            GuardFigures x = Due.house("g99 e99 c99 h99 b99 d99", "");
            for (int n = 0; n < 6; n++) {
                int i = n;
                Edge.aside(x, 1, 0, "guard(" + i + ", 3) over none", () -> x.guard(i, 3));
            }
            Due.write(x, "99999999");
            // weights 9 .. 2 and 9 times 44: 396; the cross sum of each product is 9: 72, twice 2 and 8
            int[] due = {6, 0, 2, 0, 0, 2};
            // a CHAIN: 18 is 8, 72 + 18 is 0, 18 is 8, ..
            for (int n = 0; n < 6; n++) {
                int i = n;
                Edge.aside(x, 1, due[i], "guard(" + i + ", 3) over 8", () -> x.guard(i, 3));
            }
        });
        Edge.of(12, "4 how many SLIPS it does not NOTICE, told by asked(): 1.", () -> {
            GuardFigures x = Due.house("g00 e10", "");
            Edge.aside(x, 1, 0, "of no figures", () -> x.guard(0, 4));
            Due.write(x, "00000000");
            Edge.aside(x, 1, 72, "all", () -> x.guard(0, 4));
            Edge.aside(x, 1, 0, "none, and NONE is not answered", () -> x.guard(1, 4));
            GuardFigures y = Due.house("g00 g50", "1");
            Due.told(y, "asked at once", y.guard(0, 4), 1, 9);
            Due.told(y, "the other one", y.guard(1, 4), 1, 4);
        });
        Edge.of(12, "BAD.", () -> {
            GuardFigures none = new GuardFigures();
            Edge.refused(none, BAD, "guard(0, 0) without GUARDS", () -> none.guard(0, 0));
            GuardFigures x = Due.house("g11 e22", "1");
            x.guard(1, 2);
            Edge.refused(x, BAD, "guard(2, 0)", () -> x.guard(2, 0));
            Edge.refused(x, BAD, "guard(-1, 0)", () -> x.guard(-1, 0));
            Edge.refused(x, BAD, "guard(0, 5)", () -> x.guard(0, 5));
            Edge.refused(x, BAD, "guard(0, -1)", () -> x.guard(0, -1));
            Edge.refused(x, BAD, "guard(MAX, MIN)", () -> x.guard(MAX, MIN));
        });
    }

    private static void mark() {
        Edge.of(13, "an ELEVEN (BACK, too) how far what it RECKONS is from what a GUARD alike does", () -> {
            // over 28: GUARD 0, ELEVEN 10, BACK 10; over 65: GUARD 1, ELEVEN 0
            GuardFigures x = Due.house("e10 b10", "28");
            Edge.aside(x, 10, 0, "above it", () -> x.mark(0, 1));
            Edge.aside(x, 10, 0, "a BACK one", () -> x.mark(1, 1));
            x.change(0, 6);
            x.change(1, 5);
            Edge.aside(x, 1, 0, "below it", () -> x.mark(0, 1));
            x.undo(0);
            Edge.aside(x, 0, 0, "over none", () -> x.mark(0, 1));
            GuardFigures y = Due.house("b12 e12", "21");
            // GUARD: 2 + 3; BACK: 1 + 6
            Edge.aside(y, 2, 0, "from behind, above it", () -> y.mark(0, 1));
        });
        Edge.of(13, "a CROSS one (DOUBLE, too) likewise", () -> {
            // over 5, 45: GUARD 5, CROSS 9, DOUBLE 19 is 9
            GuardFigures x = Due.house("c90 d90", "5");
            Edge.aside(x, 4, 0, "above it", () -> x.mark(0, 2));
            Edge.aside(x, 4, 0, "a DOUBLE one", () -> x.mark(1, 2));
            x.change(0, 0);
            Edge.aside(x, 0, 0, "alike", () -> x.mark(0, 2));
            Edge.aside(x, 1, 0, "a DOUBLE one counts the figure", () -> x.mark(1, 2));
            GuardFigures y = Due.house("c50 d50", "3");
            // 15: GUARD 5, CROSS 6, DOUBLE 13 is 3
            Edge.aside(y, 1, 0, "above it", () -> y.mark(0, 2));
            Edge.aside(y, 2, 0, "a DOUBLE one, below it", () -> y.mark(1, 2));
        });
        Edge.of(13, "a CHAIN likewise", () -> {
            GuardFigures x = Due.house("h30 h09", "1");
            // 1 and 3; 0 and 10: 0
            Edge.aside(x, 2, 0, "below it", () -> x.mark(0, 3));
            Edge.aside(x, 0, 0, "alike", () -> x.mark(1, 3));
            x.change(0, 5);
            Edge.aside(x, 4, 0, "above it, 14 is 4", () -> x.mark(1, 3));
        });
        Edge.of(13, "a BACK one how far from what an ELEVEN alike does", () -> {
            GuardFigures x = Due.house("b12 e12", "21");
            // BACK: 1 and 6; ELEVEN: 2 and 3
            Edge.aside(x, 2, 0, "above it", () -> x.mark(0, 4));
            x.swap(0);
            Edge.aside(x, 2, 0, "below it", () -> x.mark(0, 4));
            x.change(0, 2);
            Edge.aside(x, 0, 0, "alike", () -> x.mark(0, 4));
        });
        Edge.of(13, "a DOUBLE one from what a CROSS one alike does", () -> {
            GuardFigures x = Due.house("d10 c10", "3");
            Edge.aside(x, 4, 0, "7 and 3", () -> x.mark(0, 5));
            x.change(0, 6);
            Edge.aside(x, 3, 0, "3 and 6", () -> x.mark(0, 5));
            x.change(0, 9);
            Edge.aside(x, 0, 0, "9 and 9", () -> x.mark(0, 5));
        });
        Edge.of(13, "BAD: also KIND 0", () -> {
            GuardFigures x = Due.house("b11 d22", "1");
            Edge.refused(x, BAD, "mark(0, 0)", () -> x.mark(0, 0));
            Edge.refused(x, BAD, "mark(0, 6)", () -> x.mark(0, 6));
            Edge.refused(x, BAD, "mark(0, -1)", () -> x.mark(0, -1));
            Edge.refused(x, BAD, "mark(2, 1)", () -> x.mark(2, 1));
            Edge.refused(x, BAD, "mark(-1, 1)", () -> x.mark(-1, 1));
            Edge.refused(x, BAD, "mark(2, 3), ahead of UNLIKE", () -> x.mark(2, 3));
        });
        Edge.of(13, "UNLIKE.", () -> {
            GuardFigures x = Due.house("g11 e11 c11 h11 b11 d11", "1");
            int[][] unlike = {{1, 2, 3, 4, 5}, {2, 3, 4, 5}, {1, 3, 4, 5}, {1, 2, 4, 5}, {2, 3, 5}, {1, 3, 4}};
            for (int n = 0; n < 6; n++) {
                int i = n;
                GuardFigures y = n < 3 ? x : Due.house("g11 e11 c11 h11 b11 d11", "2");
                for (int kind : unlike[i]) {
                    Edge.found(y, UNLIKE, "mark(" + i + ", " + kind + ")", () -> y.mark(i, kind));
                }
            }
        });
    }

    private static void figure() {
        Edge.of(14, "The figure at a PLACE of THE NUMBER.", () -> {
            GuardFigures x = Due.house("g11 e22", "90000008");
            Due.is("figure(0)", x.figure(0), 9);
            Due.is("figure(1)", x.figure(1), 0);
            Due.is("figure(7)", x.figure(7), 8);
        });
        Edge.of(14, "BAD: also none there.", () -> {
            GuardFigures none = new GuardFigures();
            Edge.refused(none, BAD, "figure(0) without GUARDS", () -> none.figure(0));
            GuardFigures x = Due.house("g11 e22", "12");
            Edge.refused(x, BAD, "figure(2)", () -> x.figure(2));
            Edge.refused(x, BAD, "figure(-1)", () -> x.figure(-1));
            Edge.refused(x, BAD, "figure(8)", () -> x.figure(8));
            Edge.refused(x, BAD, "figure(MIN)", () -> x.figure(MIN));
            x.drop();
            Edge.refused(x, BAD, "figure(1), taken off", () -> x.figure(1));
            Due.is("figure(0)", x.figure(0), 1);
        });
    }

    public static void main(String[] args) throws IOException {
        text();
        put();
        fault();
        house();
        guard();
        mark();
        figure();
        Edge.end(8, 14);
    }
}
