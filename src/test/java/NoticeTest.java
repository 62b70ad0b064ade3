/** Promises 22 to 26: slips, swaps, jumps, best, cover. */
public final class NoticeTest {
    private static final int BAD = GuardFigures.BAD, NONE = GuardFigures.NONE;

    private static void slips() {
        // weights 5, 7: a SLIP at PLACE 0 by an even step goes by
        GuardFigures x = Due.house("g52 g11 b25 h21", "30");
        Due.told(x, "22: slips(0)", x.slips(0), 4, 1);
        // weights 1, 2: a SLIP at PLACE 1 by 5 goes by
        Due.told(x, "22: slips(1)", x.slips(1), 1, 15);
        // modulo 11, weights 7, 2: none goes by
        Due.told(x, "22: slips(2)", x.slips(2), NONE, 15);
        // a CHAIN that doubles: a SLIP at PLACE 0 by 5 goes by
        Due.told(x, "22: slips(3)", x.slips(3), 1, 8);
        Due.is("22: slips(4)", x.slips(4), BAD);
        Due.is("22: slips(-1)", x.slips(-1), BAD);
        GuardFigures none = Due.house("g00 g00", "");
        Due.told(none, "22: of no figures", none.slips(0), NONE, 0);
        GuardFigures all = Due.house("g00 h00", "00000000");
        Due.told(all, "22: all of them", all.slips(0), 72, 1);
        Due.told(all, "22: all but the last figure's", all.slips(1), 63, 1);
    }

    private static void swaps() {
        GuardFigures x = Due.house("g10 g11 g32 c21", "11605");
        Due.told(x, "23: alike weights, unlike figures", x.swaps(0), 3, 1);
        // a SWAP of figures d apart goes by, if the weights' difference times d is 0 modulo 10
        Due.told(x, "23: swaps(1)", x.swaps(1), NONE, 1);
        // twice 5 is 10: 1 and 6, 0 and 5
        Due.told(x, "23: swaps(2)", x.swaps(2), 2, 1);
        Due.is("23: swaps(4)", x.swaps(4), BAD);
        Due.is("23: swaps(-1)", x.swaps(-1), BAD);
        GuardFigures y = Due.house("g10 b10", "7");
        Due.told(y, "23: of one figure", y.swaps(0), NONE, 0);
        y.add(7);
        Due.told(y, "23: alike ones are none", y.swaps(0), NONE, 0);
        y.add(8);
        Due.told(y, "23: swaps(1)", y.swaps(1), 1, 1);
    }

    private static void jumps() {
        GuardFigures x = Due.house("g10 g13 g11", "1268");
        Due.told(x, "24: jumps(0)", x.jumps(0), 2, 0);
        // six times 5 is 30: 1 and 6
        Due.told(x, "24: jumps(1)", x.jumps(1), 1, 0);
        // twice 5 is 10, too
        Due.told(x, "24: jumps(2)", x.jumps(2), 1, 0);
        Due.is("24: jumps(3)", x.jumps(3), BAD);
        Due.is("24: jumps(-1)", x.jumps(-1), BAD);
        GuardFigures y = Due.house("g10 e12", "17");
        Due.told(y, "24: of two figures", y.jumps(0), NONE, 0);
        y.add(1);
        Due.told(y, "24: alike ones are none", y.jumps(0), NONE, 0);
        y.add(6);
        Due.told(y, "24: the first's left PLACE", y.jumps(0), 1, 1);
        Due.told(y, "24: it NOTICES all", y.jumps(1), NONE, 1);
    }

    private static void best() {
        Due.is("25: without GUARDS", new GuardFigures().best(), GuardFigures.STATE);
        GuardFigures x = Due.house("g00 g10 g11 e12 e12", "12");
        // g00: 19; g10: the SWAP; g11: a SLIP at PLACE 1; e12: none
        Due.told(x, "25: the first that NOTICES all", x.best(), 3, 0);
        GuardFigures y = Due.house("g00 g11 g10", "12");
        Due.told(y, "25: the first of like ones", y.best(), 1, 1);
        GuardFigures z = Due.house("g10 g13", "1268");
        // g10: 3 SWAPS, 2 JUMPS; g13 (1, 4, 7, 0): 4 SLIPS at PLACE 1 .. 9 at PLACE 3, a JUMP
        Due.told(z, "25: JUMPS, too", z.best(), 0, 5);
    }

    private static void cover() {
        Due.is("26: without GUARDS", new GuardFigures().cover(), GuardFigures.STATE);
        GuardFigures x = Due.house("g00 g00", "");
        Due.told(x, "26: nothing is to be NOTICED", x.cover(), 0, 0);
        x.add(1);
        Due.told(x, "26: not by all together", x.cover(), NONE, 0);
        GuardFigures y = Due.house("g10 g10 g11 g11", "12");
        // g10 misses the SWAP, g11 a SLIP: one of each, the least number
        Due.told(y, "26: two of them", y.cover(), 5, 19);
        GuardFigures one = Due.house("g10 g11 e12", "12");
        Due.told(one, "26: one is fewer, if a greater number", one.cover(), 4, 19);
        GuardFigures like = Due.house("g00 e12 e12", "10");
        Due.told(like, "26: of like few the least number", like.cover(), 2, 19);
        GuardFigures jump = Due.house("g10 h10", "121");
        // alike figures at the ends: no JUMP
        Due.told(jump, "26: how many there are", jump.cover(), NONE, 0);
        jump.change(2, 2);
        Due.is("26: each misses SWAPS", jump.cover(), NONE);
        GuardFigures all = Due.house("e12 g00", "12345678");
        // weights 1, 3, 5, 7, 9, 1, 3, 5 modulo 11: it NOTICES all
        Due.told(all, "26: 72 SLIPS, 7 SWAPS, 6 JUMPS", all.cover(), 1, 85);
    }

    public static void main(String[] args) {
        slips();
        swaps();
        jumps();
        best();
        cover();
        Due.end();
    }
}
