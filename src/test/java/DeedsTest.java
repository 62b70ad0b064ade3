/** Promises 15 to 21: add, drop, change, swap, undo, keep, on. */
public final class DeedsTest {
    private static final int NOTHING = 1;
    private static final int MIN = Integer.MIN_VALUE, MAX = Integer.MAX_VALUE;

    private static void number(GuardFigures x, String call, int figures, int number, int deeds) {
        Due.is(call + ": figures", x.count(1), figures);
        Due.is(call + ": THE NUMBER", x.count(3), number);
        Due.is(call + ": DEEDS", x.count(2), deeds);
    }

    private static void add() {
        GuardFigures x = new GuardFigures();
        Due.is("15: without GUARDS", x.add(1), GuardFigures.STATE);
        Due.is("15: BAD ahead of STATE", x.add(10), GuardFigures.BAD);
        GuardFigures y = Due.house("g11 g11", "");
        Due.is("15: add(-1)", y.add(-1), GuardFigures.BAD);
        for (int k = 0; k < 8; k++) {
            Due.is("15: add", y.add(k == 0 ? 0 : 9), k + 1);
        }
        Due.is("15: a ninth", y.add(1), GuardFigures.STATE);
        number(y, "15", 8, 9999999, 8);
    }

    private static void drop() {
        GuardFigures x = new GuardFigures();
        Due.is("16: without GUARDS", x.drop(), GuardFigures.STATE);
        GuardFigures y = Due.house("g11 g11", "50");
        Due.is("16: drop", y.drop(), 0);
        Due.is("16: drop", y.drop(), 5);
        Due.is("16: none there", y.drop(), GuardFigures.STATE);
        number(y, "16", 0, 0, 4);
    }

    private static void change() {
        GuardFigures x = Due.house("g11 g11", "123");
        Due.is("17: change(1, 9)", x.change(1, 9), 2);
        number(x, "17", 3, 193, 4);
        Due.is("17: it is that", x.change(1, 9), GuardFigures.STATE);
        Due.is("17: no figure 10", x.change(1, 10), GuardFigures.BAD);
        Due.is("17: no figure -1", x.change(1, -1), GuardFigures.BAD);
        Due.is("17: none there", x.change(3, 1), GuardFigures.BAD);
        Due.is("17: none there", x.change(-1, 1), GuardFigures.BAD);
        number(x, "17 refused", 3, 193, 4);
    }

    private static void swap() {
        GuardFigures x = Due.house("g11 g11", "123");
        Due.is("18: swap(1)", x.swap(1), 3);
        number(x, "18", 3, 132, 4);
        Due.is("18: swap(0)", x.swap(0), 3);
        number(x, "18", 3, 312, 5);
        Due.is("18: none behind", x.swap(2), GuardFigures.BAD);
        Due.is("18: none", x.swap(-1), GuardFigures.BAD);
        Due.is("18: far", x.swap(MAX), GuardFigures.BAD);
        Due.is("18: far", x.swap(MIN), GuardFigures.BAD);
        GuardFigures y = Due.house("g11 g11", "77");
        Due.is("18: alike ones", y.swap(0), 7);
        number(y, "18 alike", 2, 77, 3);
        Due.is("18: without GUARDS", new GuardFigures().swap(0), GuardFigures.BAD);
    }

    private static void full() {
        GuardFigures x = Due.house("g11 g11", "12345678");
        for (int d = 8; d < 40; d++) {
            Due.is("15..18: DEED " + d, x.count(2), d);
            x.swap(0);
        }
        number(x, "40 DEEDS", 8, 12345678, 40);
        Due.is("18: FULL", x.swap(0), GuardFigures.FULL);
        Due.is("18: BAD ahead of FULL", x.swap(7), GuardFigures.BAD);
        Due.is("17: FULL", x.change(0, 9), GuardFigures.FULL);
        Due.is("17: STATE ahead of FULL", x.change(0, 1), GuardFigures.STATE);
        Due.is("17: BAD ahead of FULL", x.change(8, 1), GuardFigures.BAD);
        Due.is("16: FULL", x.drop(), GuardFigures.FULL);
        Due.is("15: STATE ahead of FULL", x.add(1), GuardFigures.STATE);
        Due.is("15: BAD ahead of FULL", x.add(-1), GuardFigures.BAD);
        number(x, "refused", 8, 12345678, 40);
        x.undo(0);
        for (int d = 0; d < 40; d++) {
            Due.is("DEED " + d, d % 2 == 0 ? x.add(4) : x.drop(), d % 2 == 0 ? 1 : 4);
        }
        Due.is("15: FULL", x.add(1), GuardFigures.FULL);
        Due.is("16: STATE ahead of FULL", x.drop(), GuardFigures.STATE);
    }

    private static void undo() {
        GuardFigures x = Due.house("g11 g11", "005");
        x.change(0, 3);
        x.swap(1);
        x.drop();
        number(x, "19 ahead", 2, 35, 6);
        Due.is("19: undo(7)", x.undo(7), GuardFigures.BAD);
        Due.is("19: undo(-1)", x.undo(-1), GuardFigures.BAD);
        Due.is("19: undo(6)", x.undo(6), 0);
        number(x, "19: none", 2, 35, 6);
        Due.is("19: undo(5)", x.undo(5), 1);
        number(x, "19: drop", 3, 350, 5);
        Due.is("19: undo(3)", x.undo(3), 2);
        number(x, "19: swap, change", 3, 5, 3);
        Due.is("19: undo(2)", x.undo(2), 1);
        number(x, "19: noughts ahead stay", 2, 0, 2);
        x.add(8);
        Due.is("19: undo(0)", x.undo(0), 3);
        number(x, "19: all", 0, 0, 0);
        GuardFigures none = new GuardFigures();
        Due.is("19: undo(0) of none", none.undo(0), 0);
        Due.is("19: undo(1) of none", none.undo(1), GuardFigures.BAD);
        GuardFigures lots = Due.house("g11 g11", "12");
        lots.lots(20, 99);
        Due.is("19: LOTS undone", lots.undo(2), 20);
        number(lots, "19: LOTS undone", 2, 12, 2);
    }

    private static void keepAndOn() {
        GuardFigures x = new GuardFigures();
        Due.is("20: keep(3)", x.keep(3), GuardFigures.BAD);
        Due.is("20: keep(-1)", x.keep(-1), GuardFigures.BAD);
        Due.is("20: without GUARDS", x.keep(0), GuardFigures.STATE);
        Due.is("21: on(3)", x.on(3), GuardFigures.BAD);
        Due.is("21: on(-1)", x.on(-1), GuardFigures.BAD);
        Due.finding(x, NOTHING, "21: on(0)", () -> x.on(0));
        GuardFigures y = Due.house("g11 g11", "123");
        Due.is("20: keep(0)", y.keep(0), 3);
        y.undo(1);
        y.add(9);
        y.add(9);
        y.add(9);
        Due.is("20: keep(2)", y.keep(2), 4);
        Due.is("20: kept HOUSES", y.count(8), 2);
        Due.is("21: on(0)", y.on(0), 3);
        number(y, "21: on(0)", 3, 123, 3);
        Due.is("21: its DEEDS, too", y.undo(2), 1);
        number(y, "21: undone", 2, 12, 2);
        Due.is("21: on(2)", y.on(2), 4);
        number(y, "21: on(2)", 4, 1999, 4);
        y.change(0, 5);
        Due.is("21: on(2) again", y.on(2), 4);
        number(y, "21: on(2) again", 4, 1999, 4);
        Due.is("21: on(0) again", y.on(0), 3);
        number(y, "21: on(0) again", 3, 123, 3);
        Due.is("20: another in its place", y.keep(2), 3);
        y.undo(0);
        Due.is("21: on(2)", y.on(2), 3);
        number(y, "21: on(2), the other", 3, 123, 3);
        Due.finding(y, NOTHING, "21: on(1)", () -> y.on(1));
    }

    public static void main(String[] args) {
        add();
        drop();
        change();
        swap();
        full();
        undo();
        keepAndOn();
        Due.end();
    }
}
