/** Promises 8 to 14: text, put, fault, house, guard, mark, figure. */
public final class HousesTest {
    private static final int NOTHING = 1, BEYOND = 2, UNLIKE = 3, SIZE = 5;

    private static void text() {
        GuardFigures x = new GuardFigures();
        Due.is("8: text(3, 60)", x.text(3, 60), 60);
        Due.is("8: put(3, 59, 1)", x.put(3, 59, 1), 1032);
        Due.is("8: text(3, 61)", x.text(3, 61), GuardFigures.BAD);
        Due.is("8: text(4, 0)", x.text(4, 0), GuardFigures.BAD);
        Due.is("8: text(-1, -1)", x.text(-1, -1), GuardFigures.BAD);
        Due.finding(x, SIZE, "8: text(3, -1)", () -> x.text(3, -1));
        Due.is("8: put(3, 59, 2) behind refused ones", x.put(3, 59, 2), 1001);
        Due.is("8: count(7)", x.count(7), 1);
        Due.is("8: text(3, 2) anew", x.text(3, 2), 2);
        Due.is("8: put(3, 1, 2)", x.put(3, 1, 2), 1032);
    }

    private static void put() {
        GuardFigures x = new GuardFigures();
        Due.is("9: put(4, 0, 0)", x.put(4, 0, 0), GuardFigures.BAD);
        Due.is("9: put(-1, 0, 0)", x.put(-1, 0, 0), GuardFigures.BAD);
        Due.finding(x, NOTHING, "9: put(0, -1, 0)", () -> x.put(0, -1, 0));
        x.text(0, 2);
        Due.finding(x, BEYOND, "9: put(0, 2, 0)", () -> x.put(0, 2, 0));
        Due.finding(x, BEYOND, "9: put(0, -1, 0)", () -> x.put(0, -1, 0));
        Due.is("9: put(0, 1, 127)", x.put(0, 1, 127), 1032);
        Due.is("9: put(0, 1, 128)", x.put(0, 1, 128), 1127);
        Due.is("9: put(0, 1, 255)", x.put(0, 1, 255), 872);
        Due.is("9: put(0, 1, 256)", x.put(0, 1, 256), 999);
        Due.is("9: put(0, 1, -129)", x.put(0, 1, -129), 1000);
        Due.is("9: put(0, 1, 0)", x.put(0, 1, 0), 1127);
        Due.is("9: asked() is not told", x.asked(), 0);
    }

    private static void faultOf(String signs, int due) {
        GuardFigures x = new GuardFigures();
        Due.text(x, 1, signs);
        Due.is("10: fault of '" + signs + "'", x.fault(1), due);
        Due.is("11: house of '" + signs + "'", x.house(1) == GuardFigures.STATE ? 1 : 0, due == GuardFigures.NONE ? 0 : 1);
    }

    private static void fault() {
        GuardFigures x = new GuardFigures();
        Due.is("10: fault(4)", x.fault(4), GuardFigures.BAD);
        Due.is("10: fault(-1)", x.fault(-1), GuardFigures.BAD);
        Due.finding(x, NOTHING, "10: fault(0)", () -> x.fault(0));
        faultOf("", 0);
        faultOf("   ", 3);
        faultOf("g00e99", GuardFigures.NONE);
        faultOf("  g00   e99  ", GuardFigures.NONE);
        faultOf("c12h34b56d78", GuardFigures.NONE);
        faultOf("g00", 3);
        faultOf("g00  ", 5);
        faultOf("g00 e", 5);
        faultOf("g00 e1", 6);
        faultOf("g00 e1 ", 6);
        faultOf("g00 e 1", 5);
        faultOf("g00 a11", 4);
        faultOf("g00 G11", 4);
        faultOf("g00 e:1", 5);
        faultOf("g00 e1/", 6);
        faultOf("g00 e11 1", 8);
        faultOf("g00,e11", 3);
        faultOf("g00e111", 6);
        faultOf("g00 e11 c22 h33 b44 d55 g66", GuardFigures.NONE);
        faultOf("g00 e11 c22 h33 b44 d55 g66  ", GuardFigures.NONE);
        faultOf("g00 e11 c22 h33 b44 d55 g66 e77", 28);
        faultOf("g00 e11 c22 h33 b44 d55 g66 e", 28);
        faultOf("g00 e11 c22 h33 b44 d55 g66 ?", 28);
        faultOf(" ".repeat(54) + "g00e11", GuardFigures.NONE);
        faultOf(" ".repeat(55) + "g00e1", 60);
        x.text(0, 6);
        x.put(0, 0, 103 - 256);
        x.put(0, 1, 48 + 512);
        Due.is("10: bytes are cut, then read", x.fault(0), 2);
        x.put(0, 0, 103 + 128);
        Due.is("10: a byte below 0 is no letter", x.fault(0), 0);
    }

    private static void house() {
        GuardFigures x = new GuardFigures();
        Due.is("11: house(4)", x.house(4), GuardFigures.BAD);
        Due.is("11: house(-1)", x.house(-1), GuardFigures.BAD);
        Due.finding(x, NOTHING, "11: house(0)", () -> x.house(0));
        Due.text(x, 0, "g11 e10 c12");
        Due.is("11: house(0)", x.house(0), 3);
        Due.write(x, "12");
        x.keep(1);
        x.text(1, 3);
        Due.is("11: a FAULT", x.house(1), GuardFigures.STATE);
        Due.is("11: refused: GUARDS", x.count(0), 3);
        Due.is("11: refused: THE NUMBER", x.count(3), 12);
        Due.is("11: refused: kept HOUSES", x.count(8), 1);
        Due.text(x, 1, "b21 d13");
        Due.is("11: house(1)", x.house(1), 2);
        Due.is("11: GUARDS", x.count(0), 2);
        Due.is("11: no figures", x.count(1), 0);
        Due.is("11: no DEEDS", x.count(2), 0);
        Due.is("11: kept HOUSES are gone", x.count(8), 0);
        Due.finding(x, NOTHING, "11: on(1)", () -> x.on(1));
        Due.is("11: guard(2, 0)", x.guard(2, 0), GuardFigures.BAD);
    }

    private static void reckons(String signs, String figures, int due) {
        GuardFigures x = Due.house(signs + "g00", figures);
        Due.told(x, "12: " + signs + " over " + figures, x.guard(0, 3), 1, due);
    }

    private static void guard() {
        GuardFigures x = Due.house("g73 e48 c05 h96 b21 d17", "");
        int[][] due = {{0, 7, 3}, {1, 4, 8}, {2, 0, 5}, {3, 9, 6}, {4, 2, 1}, {5, 1, 7}};
        for (int i = 0; i < 6; i++) {
            for (int what = 0; what < 3; what++) {
                Due.told(x, "12: guard(" + i + ", " + what + ")", x.guard(i, what), 1, due[i][what]);
            }
            Due.told(x, "12: over no figures", x.guard(i, 3), 1, 0);
            Due.told(x, "12: SLIPS of no figures", x.guard(i, 4), 1, 0);
        }
        Due.is("12: guard(6, 0)", x.guard(6, 0), GuardFigures.BAD);
        Due.is("12: guard(-1, 0)", x.guard(-1, 0), GuardFigures.BAD);
        Due.is("12: guard(0, 5)", x.guard(0, 5), GuardFigures.BAD);
        Due.is("12: guard(0, -1)", x.guard(0, -1), GuardFigures.BAD);
        // weights 7, 0, 3: 7 * 9 + 0 + 3 * 8 = 87
        reckons("g73", "958", 7);
        reckons("e73", "958", 10);
        // 63 and 0 and 24: 6 + 3 + 2 + 4 = 15
        reckons("c73", "958", 5);
        reckons("d73", "958", 3);
        // ((0 * 7 + 9 + 3) * 7 + 5 + 3) * 7 + 8 + 3: 2, then 22 is 2, then 25 is 5
        reckons("h73", "958", 5);
        // 8 * 7 + 5 * 0 + 9 * 3 = 83
        reckons("b73", "958", 6);
        // 81 * 8 = 648 is 10 modulo 11
        reckons("e90", "99999999", 10);
        GuardFigures y = Due.house("g50 g10", "70");
        Due.told(y, "12: SLIPS by even steps go by", y.guard(0, 4), 1, 8);
        Due.told(y, "12: no SLIP goes by", y.guard(1, 4), 1, 0);
    }

    private static void mark() {
        GuardFigures x = Due.house("g73 e73 c73 h73 b73 d73", "958");
        // GUARD 7, ELEVEN 10, CROSS 5, CHAIN 5, BACK 6, DOUBLE 3
        Due.is("13: ELEVEN", x.mark(1, 1), 3);
        Due.is("13: CROSS", x.mark(2, 2), 2);
        Due.is("13: CHAIN", x.mark(3, 3), 2);
        Due.is("13: BACK as ELEVEN", x.mark(4, 1), 1);
        Due.is("13: BACK", x.mark(4, 4), 4);
        Due.is("13: DOUBLE as CROSS", x.mark(5, 2), 4);
        Due.is("13: DOUBLE", x.mark(5, 5), 2);
        int[][] are = {{}, {1}, {2}, {3}, {1, 4}, {2, 5}};
        for (int i = 0; i < 6; i++) {
            for (int kind = 1; kind <= 5; kind++) {
                boolean is = false;
                for (int one : are[i]) {
                    is |= one == kind;
                }
                int guard = i, wanted = kind;
                if (!is) {
                    Due.finding(x, UNLIKE, "13: mark(" + i + ", " + kind + ")", () -> x.mark(guard, wanted));
                }
            }
        }
        Due.is("13: KIND 0", x.mark(1, 0), GuardFigures.BAD);
        Due.is("13: KIND 6", x.mark(1, 6), GuardFigures.BAD);
        Due.is("13: KIND -1", x.mark(1, -1), GuardFigures.BAD);
        Due.is("13: no GUARD", x.mark(6, 1), GuardFigures.BAD);
        Due.is("13: asked() is not told", x.asked(), 0);
    }

    private static void figure() {
        GuardFigures x = Due.house("g11 g11", "07");
        Due.is("14: figure(0)", x.figure(0), 0);
        Due.is("14: figure(1)", x.figure(1), 7);
        Due.is("14: figure(2)", x.figure(2), GuardFigures.BAD);
        Due.is("14: figure(-1)", x.figure(-1), GuardFigures.BAD);
        x.drop();
        Due.is("14: figure(1), taken off", x.figure(1), GuardFigures.BAD);
    }

    public static void main(String[] args) {
        text();
        put();
        fault();
        house();
        guard();
        mark();
        figure();
        Due.end();
    }
}
