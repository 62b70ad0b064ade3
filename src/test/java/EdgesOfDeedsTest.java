import java.io.IOException;

/** The edges that promises 15 to 21 name: add, drop, change, swap, undo, keep, on. */
public final class EdgesOfDeedsTest {
    private static final int BAD = Edge.BAD, FULL = Edge.FULL, STATE = Edge.STATE, MIN = Edge.MIN, MAX = Edge.MAX;
    private static final int NOTHING = Edge.NOTHING;
    private static final String TWO = "g11 e22";

    /** 40 DEEDS, and no figure in the end. */
    private static GuardFigures fullOfNone() {
        GuardFigures x = Due.house(TWO, "");
        for (int d = 0; d < 20; d++) {
            Due.is("add(4)", x.add(4), 1);
            Due.is("drop()", x.drop(), 4);
        }
        return x;
    }

    private static void add() {
        Edge.of(15, "A figure is PUT at the right end: how many there are.", () -> {
            GuardFigures x = Due.house(TWO, "");
            Due.is("add(0)", x.add(0), 1);
            Edge.number(x, "add(0)", 1, 0, 1);
            Due.is("add(9)", x.add(9), 2);
            Edge.number(x, "add(9)", 2, 9, 2);
            Due.write(x, "87654");
            Due.is("the eighth", x.add(1), 8);
            Edge.number(x, "the eighth", 8, 9876541, 8);
        });
        Edge.of(15, "BAD;", () -> {
            GuardFigures x = Due.house(TWO, "1");
            Edge.refused(x, BAD, "add(-1)", () -> x.add(-1));
            Edge.refused(x, BAD, "add(10)", () -> x.add(10));
            Edge.refused(x, BAD, "add(MIN)", () -> x.add(MIN));
            Edge.refused(x, BAD, "add(MAX)", () -> x.add(MAX));
            Due.write(x, "2345678");
            Edge.refused(x, BAD, "add(10), ahead of STATE", () -> x.add(10));
            GuardFigures none = new GuardFigures();
            Edge.refused(none, BAD, "add(-1), ahead of STATE", () -> none.add(-1));
        });
        Edge.of(15, "STATE: no GUARDS", () -> {
            GuardFigures x = new GuardFigures();
            Edge.refused(x, STATE, "add(1)", () -> x.add(1));
        });
        Edge.of(15, "or there are 8;", () -> {
            GuardFigures x = Due.house(TWO, "1234567");
            Due.is("the eighth", x.add(8), 8);
            Edge.refused(x, STATE, "a ninth", () -> x.add(9));
            Due.is("drop()", x.drop(), 8);
            Due.is("the eighth", x.add(9), 8);
        });
        Edge.of(15, "FULL: 40 DEEDS.", () -> {
            GuardFigures x = Edge.full(TWO, "12");
            Edge.refused(x, FULL, "add(1)", () -> x.add(1));
            x.undo(39);
            Due.is("the fortieth DEED", x.add(1), 3);
            Edge.refused(x, FULL, "add(1)", () -> x.add(1));
        });
        Edge.of(15, "(FULL last.)", () -> {
            GuardFigures x = Edge.full(TWO, "12345678");
            Edge.refused(x, STATE, "add(1)", () -> x.add(1));
            Edge.refused(x, BAD, "add(10)", () -> x.add(10));
        });
    }

    private static void drop() {
        Edge.of(16, "The last one is TAKEN off: which figure.", () -> {
            GuardFigures x = Due.house(TWO, "90000000");
            Due.is("drop()", x.drop(), 0);
            Edge.number(x, "drop()", 7, 9000000, 9);
            GuardFigures y = Due.house(TWO, "9");
            Due.is("the only one", y.drop(), 9);
            Edge.number(y, "drop()", 0, 0, 2);
        });
        Edge.of(16, "STATE: there is none;", () -> {
            GuardFigures none = new GuardFigures();
            Edge.refused(none, STATE, "without GUARDS", () -> none.drop());
            GuardFigures x = Due.house(TWO, "");
            Edge.refused(x, STATE, "none yet", () -> x.drop());
            x.add(1);
            x.drop();
            Edge.refused(x, STATE, "none any more", () -> x.drop());
        });
        Edge.of(16, "FULL.", () -> {
            GuardFigures x = Edge.full(TWO, "12");
            Edge.refused(x, FULL, "drop()", () -> x.drop());
            x.undo(39);
            Due.is("the fortieth DEED", x.drop(), 1);
            Edge.refused(x, FULL, "drop()", () -> x.drop());
        });
        Edge.of(16, "(FULL last.)", () -> {
            GuardFigures x = fullOfNone();
            Edge.refused(x, STATE, "drop()", () -> x.drop());
        });
    }

    private static void change() {
        Edge.of(17, "The figure at a PLACE is f: what it was.", () -> {
            GuardFigures x = Due.house(TWO, "12345678");
            Due.is("change(0, 0)", x.change(0, 0), 1);
            Due.is("change(7, 9)", x.change(7, 9), 8);
            Edge.number(x, "change", 8, 2345679, 10);
            Due.is("change(0, 9)", x.change(0, 9), 0);
            Edge.number(x, "change", 8, 92345679, 11);
        });
        Edge.of(17, "BAD: also none there;", () -> {
            GuardFigures none = new GuardFigures();
            Edge.refused(none, BAD, "without GUARDS", () -> none.change(0, 1));
            GuardFigures x = Due.house(TWO, "12");
            Edge.refused(x, BAD, "change(2, 1)", () -> x.change(2, 1));
            Edge.refused(x, BAD, "change(-1, 1)", () -> x.change(-1, 1));
            Edge.refused(x, BAD, "change(MAX, 1)", () -> x.change(MAX, 1));
            Edge.refused(x, BAD, "change(0, 10)", () -> x.change(0, 10));
            Edge.refused(x, BAD, "change(0, -1)", () -> x.change(0, -1));
            x.drop();
            Edge.refused(x, BAD, "change(1, 5), taken off", () -> x.change(1, 5));
            Edge.refused(x, BAD, "change(1, 2), taken off, ahead of STATE", () -> x.change(1, 2));
        });
        Edge.of(17, "STATE: it is that;", () -> {
            GuardFigures x = Due.house(TWO, "09");
            Edge.refused(x, STATE, "change(0, 0)", () -> x.change(0, 0));
            Edge.refused(x, STATE, "change(1, 9)", () -> x.change(1, 9));
        });
        Edge.of(17, "FULL.", () -> {
            GuardFigures x = Edge.full(TWO, "12");
            Edge.refused(x, FULL, "change(1, 3)", () -> x.change(1, 3));
            x.undo(39);
            Due.is("the fortieth DEED", x.change(1, 3), 1);
            Edge.refused(x, FULL, "change(1, 4)", () -> x.change(1, 4));
        });
        Edge.of(17, "(FULL last.)", () -> {
            GuardFigures x = Edge.full(TWO, "12");
            Edge.refused(x, STATE, "change(0, 1)", () -> x.change(0, 1));
            Edge.refused(x, BAD, "change(2, 1)", () -> x.change(2, 1));
            Edge.refused(x, BAD, "change(0, 10)", () -> x.change(0, 10));
        });
    }

    private static void swap() {
        Edge.of(18, "Those at PLACES k and the next one change: the figure at k then.", () -> {
            GuardFigures x = Due.house(TWO, "12345678");
            Due.is("swap(0)", x.swap(0), 2);
            Due.is("swap(6)", x.swap(6), 8);
            Edge.number(x, "swap", 8, 21345687, 10);
            GuardFigures y = Due.house(TWO, "55");
            Due.is("alike ones", y.swap(0), 5);
            Edge.number(y, "swap", 2, 55, 3);
        });
        Edge.of(18, "BAD: also none at one of them;", () -> {
            GuardFigures none = new GuardFigures();
            Edge.refused(none, BAD, "without GUARDS", () -> none.swap(0));
            GuardFigures x = Due.house(TWO, "1");
            Edge.refused(x, BAD, "swap(0) of one", () -> x.swap(0));
            Edge.refused(x, BAD, "swap(-1)", () -> x.swap(-1));
            x.add(2);
            Edge.refused(x, BAD, "swap(1)", () -> x.swap(1));
            Edge.refused(x, BAD, "swap(2)", () -> x.swap(2));
            Edge.refused(x, BAD, "swap(MAX)", () -> x.swap(MAX));
            Edge.refused(x, BAD, "swap(MIN)", () -> x.swap(MIN));
            GuardFigures y = Due.house(TWO, "12345678");
            Edge.refused(y, BAD, "swap(7)", () -> y.swap(7));
        });
        Edge.of(18, "FULL.", () -> {
            GuardFigures x = Edge.full(TWO, "12");
            Edge.refused(x, FULL, "swap(0)", () -> x.swap(0));
            x.undo(39);
            Due.is("the fortieth DEED", x.swap(0), 1);
            Edge.refused(x, FULL, "swap(0)", () -> x.swap(0));
        });
        Edge.of(18, "(FULL last.)", () -> {
            GuardFigures x = Edge.full(TWO, "12");
            Edge.refused(x, BAD, "swap(1)", () -> x.swap(1));
        });
    }

    private static void undo() {
        Edge.of(19, "DEEDS from number n on are undone: how many.", () -> {
            GuardFigures x = Due.house(TWO, "00");
            x.change(1, 7);
            x.swap(0);
            x.drop();
            Edge.number(x, "5 DEEDS", 1, 7, 5);
            Due.is("undo(5)", x.undo(5), 0);
            Edge.number(x, "undo(5)", 1, 7, 5);
            Due.is("undo(4)", x.undo(4), 1);
            Edge.number(x, "undo(4)", 2, 70, 4);
            Due.is("undo(2)", x.undo(2), 2);
            Edge.number(x, "undo(2)", 2, 0, 2);
            Due.is("undo(0)", x.undo(0), 2);
            Edge.number(x, "undo(0)", 0, 0, 0);
            Due.is("undo(0) of none", x.undo(0), 0);
            GuardFigures full = Edge.full(TWO, "12");
            Due.is("undo(40)", full.undo(40), 0);
            Due.is("undo(0) of 40", full.undo(0), 40);
            Edge.number(full, "undo(0)", 0, 0, 0);
            Due.is("undo(0) without GUARDS", new GuardFigures().undo(0), 0);
            GuardFigures lots = Due.house(TWO, "12345678");
            lots.lots(20, 7);
            Due.is("DEEDS by LOTS", lots.undo(8), 20);
            Edge.number(lots, "undo(8)", 8, 12345678, 8);
        });
        Edge.of(19, "BAD.", () -> {
            GuardFigures none = new GuardFigures();
            Edge.refused(none, BAD, "undo(1) without GUARDS", () -> none.undo(1));
            GuardFigures x = Due.house(TWO, "12");
            Edge.refused(x, BAD, "undo(3)", () -> x.undo(3));
            Edge.refused(x, BAD, "undo(-1)", () -> x.undo(-1));
            Edge.refused(x, BAD, "undo(MIN)", () -> x.undo(MIN));
            Edge.refused(x, BAD, "undo(MAX)", () -> x.undo(MAX));
            x.undo(1);
            Edge.refused(x, BAD, "undo(2), undone", () -> x.undo(2));
            GuardFigures full = Edge.full(TWO, "12");
            Edge.refused(full, BAD, "undo(41)", () -> full.undo(41));
        });
    }

    private static void keep() {
        Edge.of(20, "The HOUSE (as it is, DEEDS) is kept in a place (0 .. 2): how many DEEDS.", () -> {
            GuardFigures x = Due.house(TWO, "");
            Due.is("keep(0) without DEEDS", x.keep(0), 0);
            Due.write(x, "12");
            Due.is("keep(1)", x.keep(1), 2);
            x.change(0, 9);
            Due.is("keep(2)", x.keep(2), 3);
            Due.is("kept HOUSES", x.count(8), 3);
            Edge.number(x, "keep(2)", 2, 92, 3);
            Due.is("on(1)", x.on(1), 2);
            Edge.number(x, "on(1)", 2, 12, 2);
            Due.is("on(0)", x.on(0), 0);
            Edge.number(x, "on(0)", 0, 0, 0);
            Due.is("keep(2) in its place", x.keep(2), 0);
            Due.is("kept HOUSES", x.count(8), 3);
            GuardFigures full = Edge.full(TWO, "12");
            Due.is("keep(2) of 40", full.keep(2), 40);
        });
        Edge.of(20, "BAD;", () -> {
            GuardFigures x = Due.house(TWO, "12");
            Edge.refused(x, BAD, "keep(3)", () -> x.keep(3));
            Edge.refused(x, BAD, "keep(-1)", () -> x.keep(-1));
            GuardFigures none = new GuardFigures();
            Edge.refused(none, BAD, "keep(3), ahead of STATE", () -> none.keep(3));
        });
        Edge.of(20, "STATE: no GUARDS.", () -> {
            GuardFigures x = new GuardFigures();
            Edge.refused(x, STATE, "keep(0)", () -> x.keep(0));
            Edge.refused(x, STATE, "keep(2)", () -> x.keep(2));
        });
    }

    private static void on() {
        Edge.of(21, "The HOUSE is as it was kept: how many DEEDS.", () -> {
            GuardFigures x = Edge.full(TWO, "12");
            x.keep(0);
            x.undo(1);
            x.keep(2);
            x.add(9);
            Due.is("on(0)", x.on(0), 40);
            Edge.number(x, "on(0)", 2, 12, 40);
            Edge.refused(x, FULL, "add(1)", () -> x.add(1));
            Due.is("undo(39), its DEEDS, too", x.undo(39), 1);
            Edge.number(x, "undo(39)", 2, 21, 39);
            Due.is("on(2)", x.on(2), 1);
            Edge.number(x, "on(2)", 1, 1, 1);
            Due.write(x, "345");
            Due.is("on(2), it stays kept", x.on(2), 1);
            Edge.number(x, "on(2)", 1, 1, 1);
            Due.is("on(0), it stays kept", x.on(0), 40);
            Due.is("undo(2)", x.undo(2), 38);
            Edge.number(x, "undo(2)", 2, 12, 2);
            Due.is("kept HOUSES", x.count(8), 2);
            Due.is("GUARDS", x.count(0), 2);
        });
        Edge.of(21, "BAD;", () -> {
            GuardFigures x = Due.house(TWO, "12");
            Edge.refused(x, BAD, "on(3)", () -> x.on(3));
            Edge.refused(x, BAD, "on(-1)", () -> x.on(-1));
        });
        Edge.of(21, "NOTHING.", () -> {
            GuardFigures none = new GuardFigures();
            Edge.found(none, NOTHING, "on(0) without GUARDS", () -> none.on(0));
            GuardFigures x = Due.house(TWO, "12");
            x.keep(1);
            Edge.found(x, NOTHING, "on(0)", () -> x.on(0));
            Edge.found(x, NOTHING, "on(2)", () -> x.on(2));
            x.house(0);
            Edge.found(x, NOTHING, "on(1), gone with the HOUSE", () -> x.on(1));
        });
    }

    public static void main(String[] args) throws IOException {
        add();
        drop();
        change();
        swap();
        undo();
        keep();
        on();
        Edge.end(15, 21);
    }
}
