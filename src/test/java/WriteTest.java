/** Promises 27 to 29: next, near, fills. */
public final class WriteTest {
    private static final int NOTHING = 1, UNLIKE = 3, SIZE = 5;
    private static final int BAD = GuardFigures.BAD, NONE = GuardFigures.NONE;

    private static void next() {
        // g11 over 12: 1 + 4 = 5, then 3 for each more; b10: weights 1
        GuardFigures x = Due.house("g11 g15 e10 b20 d10", "12");
        Due.is("27: 5 + 3 f is 6 modulo 10", x.next(0, 6), 1 << 7);
        Due.is("27: no GUARD RECKONS 10", x.next(0, 10), 0);
        // weights 1, 6, 1: 13 + f
        Due.is("27: 13 + f is 2 modulo 10", x.next(1, 2), 1 << 9);
        Due.is("27: 3 + f is 10", x.next(2, 10), 1 << 7);
        Due.is("27: 3 + f is 2: there is none", x.next(2, 2), 0);
        Due.is("27: 6 + 2 f is 0 modulo 11", x.next(3, 0), 1 << 8);
        // 2 (3 + f) + 3: always odd
        Due.is("27: two figures", x.next(4, 3), 1 << 2 | 1 << 7);
        Due.is("27: always odd", x.next(4, 4), 0);
        Due.is("27: next(5, 0)", x.next(5, 0), BAD);
        Due.is("27: next(-1, 0)", x.next(-1, 0), BAD);
        Due.is("27: next(0, 11)", x.next(0, 11), BAD);
        Due.is("27: next(0, -1)", x.next(0, -1), BAD);
        Due.is("27: aside", x.count(3), 12);
        Due.write(x, "345678");
        Due.is("27: there are 8", x.next(0, 0), GuardFigures.STATE);
        Due.is("27: BAD ahead of STATE", x.next(0, 11), BAD);
        Due.is("27: asked() is not told", x.asked(), 0);
    }

    private static void near() {
        GuardFigures x = Due.house("g10 g00 g20 e10 c90", "305");
        Due.told(x, "28: it is so", x.near(0, 8), 0, 305);
        // 1 less, or 9 more: 205, or 395, 304
        Due.told(x, "28: the least of those", x.near(0, 7), 1, 205);
        Due.told(x, "28: the least, not the first PLACE that can", x.near(0, 9), 1, 306);
        Due.told(x, "28: never", x.near(1, 1), NONE, 306);
        Due.told(x, "28: never an odd one", x.near(2, 3), NONE, 306);
        // 6 + 0 + 10 = 16 is 6; 0 by 7 or 2 more, 3 or 8 less
        Due.told(x, "28: modulo 10 by twos", x.near(2, 0), 1, 5);
        Due.told(x, "28: 10 modulo 11", x.near(3, 10), 1, 307);
        Due.is("28: near(5, 0)", x.near(5, 0), BAD);
        Due.is("28: near(-1, 0)", x.near(-1, 0), BAD);
        Due.is("28: near(0, 11)", x.near(0, 11), BAD);
        Due.is("28: near(0, -1)", x.near(0, -1), BAD);
        Due.is("28: aside", x.count(3), 305);
        GuardFigures y = Due.house("c50 g10", "11111");
        // cross sums of fives: 0, 5, 1, 6, 2, 7, 3, 8, 4, 9 for the figures 0 .. 9
        Due.told(y, "28: an 8 for a 1", y.near(0, 4), 1, 11118);
        GuardFigures two = Due.house("e10 e10", "00");
        Due.told(two, "28: both figures", two.near(0, 10), 2, 19);
        GuardFigures more = Due.house("e10 e13", "0");
        Due.told(more, "28: one figure is too few for 10", more.near(0, 10), NONE, 0);
        GuardFigures three = Due.house("h51 h51", "222");
        Due.told(three, "28: a CHAIN by fives", three.near(0, 3), 0, 222);
        GuardFigures none = Due.house("g10 d10", "");
        Due.told(none, "28: without figures", none.near(1, 0), 0, 0);
        Due.told(none, "28: without figures", none.near(1, 1), NONE, 0);
        GuardFigures eight = Due.house("g10 g11", "99999999");
        // 72 is 2; 9 and 9 less
        Due.told(eight, "28: 8 figures", eight.near(0, 3), 1, 9999999);
    }

    private static void fills() {
        GuardFigures x = Due.house("g10 g00 e10 b21", "7");
        Due.row(x, 3, 1, -1, 2);
        Due.told(x, "29: one smeared", x.fills(0, 0, 3), 1, 172);
        Due.told(x, "29: all ten", x.fills(1, 0, 3), 10, 102);
        Due.told(x, "29: in none", x.fills(1, 1, 3), NONE, 102);
        // 1 * 4 + 3 f + 2 * 2 is 0 modulo 11: f is 1
        Due.told(x, "29: from behind", x.fills(3, 0, 3), 1, 112);
        Due.row(x, 3, -1, -1, -1);
        // of 0 .. 27 the sum 10: 63 ways, 21: 28 ways
        Due.told(x, "29: three smeared", x.fills(2, 10, 3), 91, 19);
        Due.row(x, 3, 4, 5, 6);
        Due.told(x, "29: none smeared, it is so", x.fills(0, 5, 3), 1, 456);
        Due.told(x, "29: none smeared, it is not", x.fills(0, 6, 3), NONE, 456);
        Due.row(x, 3, 0, 0, 0, 0, 0, 0, 9, -1);
        Due.told(x, "29: 8 figures", x.fills(0, 0, 3), 1, 91);
        Due.row(x, 3, -1);
        Due.told(x, "29: 1 figure", x.fills(0, 9, 3), 1, 9);
        Due.row(x, 4, -1, 0, -1, 0, -1, 0, -1);
        Due.finding(x, UNLIKE, "29: a fourth -1", () -> x.fills(0, 0, 4));
        Due.row(x, 4, 0, 10);
        Due.finding(x, UNLIKE, "29: 10", () -> x.fills(0, 0, 4));
        Due.row(x, 4, -2, 1);
        Due.finding(x, UNLIKE, "29: -2", () -> x.fills(0, 0, 4));
        Due.row(x, 4, 99, 0, 0, 0, 0, 0, 0, 0, 0);
        Due.finding(x, SIZE, "29: 9, ahead of UNLIKE", () -> x.fills(0, 0, 4));
        Due.row(x, 4);
        Due.finding(x, SIZE, "29: none", () -> x.fills(0, 0, 4));
        Due.finding(x, NOTHING, "29: missing", () -> x.fills(0, 0, 5));
        Due.is("29: no GUARD", x.fills(4, 0, 5), BAD);
        Due.is("29: no GUARD", x.fills(-1, 0, 5), BAD);
        Due.is("29: no check", x.fills(0, 11, 5), BAD);
        Due.is("29: no check", x.fills(0, -1, 5), BAD);
        Due.is("29: no ROW", x.fills(0, 0, 6), BAD);
        Due.is("29: no ROW", x.fills(0, 0, -1), BAD);
        Due.is("29: aside", x.count(3), 7);
        Due.is("29: the ROW is as it was", x.at(3, 0) == 1 ? x.asked() : 0, -1);
    }

    public static void main(String[] args) {
        next();
        near();
        fills();
        Due.end();
    }
}
