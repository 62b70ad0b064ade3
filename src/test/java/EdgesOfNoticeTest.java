import java.io.IOException;

/** The edges that promises 22 to 26 name: slips, swaps, jumps, best, cover. */
public final class EdgesOfNoticeTest {
    private static final int BAD = Edge.BAD, STATE = Edge.STATE, NONE = Edge.NONE, MIN = Edge.MIN, MAX = Edge.MAX;

    private static void slips() {
        Edge.of(22, "How many SLIPS of THE NUMBER a GUARD does not NOTICE; 10 times the PLACE and the figure of the first by"
            + " asked() (rising).", () -> {
            GuardFigures x = Due.house("g00 h00 g05", "00000000");
            Edge.aside(x, 72, 1, "all", () -> x.slips(0));
            Edge.aside(x, 63, 1, "all but at the last PLACE", () -> x.slips(1));
            // weights 0 and 5 by turns: 9 and 4
            Edge.aside(x, 52, 1, "9 and 4 by turns", () -> x.slips(2));
            x.change(0, 5);
            Edge.aside(x, 72, 0, "from 0 on", () -> x.slips(0));
            GuardFigures y = Due.house("g91 g91", "30");
            // weights 9 and 0: those at PLACE 1 alone
            Edge.aside(y, 9, 11, "at the last PLACE", () -> y.slips(0));
            GuardFigures z = Due.house("g13 g13", "00010000");
            // weights 1, 4, 7, 0, 3, 6, 9, 2: 1 by fives at 1, 5, 7 and 9 at 3
            Edge.aside(z, 12, 15, "the first of them", () -> z.slips(0));
            GuardFigures seven = Due.house("e10e10e10e10e10e10g00", "1");
            Edge.aside(seven, 9, 0, "the last of 7", () -> seven.slips(6));
            GuardFigures again = Due.house("g50 g50", "1");
            Due.told(again, "of 1", again.slips(0), 4, 3);
            again.change(0, 2);
            Due.told(again, "of 2", again.slips(0), 4, 0);
        });
        Edge.of(22, "NONE: there is none.", () -> {
            GuardFigures x = Due.house("e10 g00", "");
            Due.row(x, 0, 77);
            x.at(0, 0);
            Edge.refused(x, NONE, "slips(1) without figures", () -> x.slips(1));
            Due.write(x, "12345678");
            Edge.refused(x, NONE, "slips(0)", () -> x.slips(0));
        });
        Edge.of(22, "BAD.", () -> {
            GuardFigures none = new GuardFigures();
            Edge.refused(none, BAD, "slips(0) without GUARDS", () -> none.slips(0));
            GuardFigures x = Due.house("g00 g00", "12");
            x.slips(1);
            Edge.refused(x, BAD, "slips(2)", () -> x.slips(2));
            Edge.refused(x, BAD, "slips(-1)", () -> x.slips(-1));
            Edge.refused(x, BAD, "slips(MAX)", () -> x.slips(MAX));
            Edge.refused(x, BAD, "slips(MIN)", () -> x.slips(MIN));
        });
    }

    private static void swaps() {
        Edge.of(23, "How many SWAPS it does not NOTICE; the first's left PLACE by asked().", () -> {
            GuardFigures x = Due.house("g10 e10", "12345678");
            Edge.aside(x, 7, 0, "all", () -> x.swaps(0));
            GuardFigures y = Due.house("g10 e10", "11111112");
            Edge.aside(y, 1, 6, "the last two", () -> y.swaps(1));
            GuardFigures z = Due.house("g32 g11", "16050");
            // weights 2 apart: those 5 apart go by
            Edge.aside(z, 3, 0, "5 apart", () -> z.swaps(0));
            Edge.refused(z, NONE, "weights 1 apart", () -> z.swaps(1));
            GuardFigures seven = Due.house("e12e12e12e12e12e12g10", "12");
            Edge.aside(seven, 1, 0, "the last of 7", () -> seven.swaps(6));
        });
        Edge.of(23, "NONE: there is none.", () -> {
            GuardFigures x = Due.house("g10 g00", "");
            Due.row(x, 0, 77);
            x.at(0, 0);
            Edge.refused(x, NONE, "without figures", () -> x.swaps(0));
            x.add(4);
            Edge.refused(x, NONE, "of one", () -> x.swaps(0));
            Due.write(x, "4444444");
            Edge.refused(x, NONE, "of alike ones", () -> x.swaps(0));
            GuardFigures y = Due.house("e12 g00", "12");
            Edge.refused(y, NONE, "it NOTICES it", () -> y.swaps(0));
        });
        Edge.of(23, "BAD.", () -> {
            GuardFigures none = new GuardFigures();
            Edge.refused(none, BAD, "swaps(0) without GUARDS", () -> none.swaps(0));
            GuardFigures x = Due.house("g00 g00", "12");
            Edge.refused(x, BAD, "swaps(2)", () -> x.swaps(2));
            Edge.refused(x, BAD, "swaps(-1)", () -> x.swaps(-1));
        });
    }

    private static void jumps() {
        Edge.of(24, "How many JUMPS it does not NOTICE; the first's left PLACE by asked().", () -> {
            GuardFigures x = Due.house("g10 e10", "12345678");
            Edge.aside(x, 6, 0, "all", () -> x.jumps(0));
            GuardFigures y = Due.house("g10 e10", "11111112");
            Edge.aside(y, 1, 5, "the last ones", () -> y.jumps(1));
            GuardFigures z = Due.house("g15 g11", "12345");
            // weights 1, 6, 1, 6, 1: alike, 2 apart
            Edge.aside(z, 3, 0, "alike weights", () -> z.jumps(0));
            Edge.refused(z, NONE, "weights 2 apart", () -> z.jumps(1));
            GuardFigures seven = Due.house("e12e12e12e12e12e12g10", "123");
            Edge.aside(seven, 1, 0, "the last of 7", () -> seven.jumps(6));
            GuardFigures between = Due.house("g10 g10", "677");
            Edge.aside(between, 1, 0, "the one between is as one of them", () -> between.jumps(0));
        });
        Edge.of(24, "NONE: there is none.", () -> {
            GuardFigures x = Due.house("g10 g00", "");
            Due.row(x, 0, 77);
            x.at(0, 0);
            Edge.refused(x, NONE, "without figures", () -> x.jumps(0));
            Due.write(x, "45");
            Edge.refused(x, NONE, "of two", () -> x.jumps(0));
            Due.write(x, "454545");
            Edge.refused(x, NONE, "of alike ones", () -> x.jumps(0));
            GuardFigures y = Due.house("e12 g00", "123");
            Edge.refused(y, NONE, "it NOTICES it", () -> y.jumps(0));
        });
        Edge.of(24, "BAD.", () -> {
            GuardFigures none = new GuardFigures();
            Edge.refused(none, BAD, "jumps(0) without GUARDS", () -> none.jumps(0));
            GuardFigures x = Due.house("g00 g00", "123");
            Edge.refused(x, BAD, "jumps(2)", () -> x.jumps(2));
            Edge.refused(x, BAD, "jumps(-1)", () -> x.jumps(-1));
        });
    }

    private static void best() {
        Edge.of(25, "The GUARD that does not NOTICE fewest SLIPS, SWAPS, JUMPS together (the first); how many by asked().",
            () -> {
            GuardFigures x = Due.house("g00 g00", "");
            Due.row(x, 0, 77);
            x.at(0, 0);
            Edge.aside(x, 0, 0, "without figures", () -> x.best());
            GuardFigures own = Due.house("e12 g11 g00", "12");
            Edge.aside(own, 0, 0, "GUARD 0", () -> own.best());
            GuardFigures last = Due.house("g00 g00 g00 g00 g00 g00 e12", "12");
            Edge.aside(last, 6, 0, "the last of 7", () -> last.best());
            GuardFigures like = Due.house("g00 e12 e14", "12");
            Edge.aside(like, 1, 0, "the first of like ones", () -> like.best());
            GuardFigures all = Due.house("g00 g00", "12345678");
            Edge.aside(all, 0, 85, "72, 7 and 6", () -> all.best());
            // 121: g10 misses 2 SWAPS; g05 (0, 5, 0) 22 SLIPS; over 1, 2, 1 there is no JUMP
            GuardFigures swaps = Due.house("g05 g10", "121");
            Edge.aside(swaps, 1, 2, "SWAPS, too", () -> swaps.best());
            // 1213: g10 misses 3 SWAPS, a JUMP; g11 (1, 2, 3, 4) two SLIPS by 5
            GuardFigures jumps = Due.house("g10 g11", "1213");
            Edge.aside(jumps, 1, 2, "JUMPS, too", () -> jumps.best());
        });
        Edge.of(25, "STATE: no GUARDS.", () -> {
            GuardFigures x = new GuardFigures();
            Edge.refused(x, STATE, "best()", () -> x.best());
        });
    }

    private static void cover() {
        Edge.of(26, "The fewest GUARDS (bits; of like few the least number) of whom each SLIP, SWAP, JUMP of THE NUMBER is"
            + " NOTICED by one at least", () -> {
            GuardFigures x = Due.house("g10 g10 g11 g11", "12");
            Edge.aside(x, 5, 19, "of like few the least number", () -> x.cover());
            GuardFigures one = Due.house("g10 g11 g00 g00 g00 g00 e12", "12");
            Edge.aside(one, 64, 19, "one, if a greater number", () -> one.cover());
            GuardFigures slip = Due.house("g11 g10", "11");
            // no SWAP: one who NOTICES SLIPS is enough
            Edge.aside(slip, 2, 18, "alike figures", () -> slip.cover());
            // 010: weights 2, 3, 4: SLIPS by 5 at 0 and 2; weights 1, 1, 1: the SWAPS; 3, 3, 3 likewise
            GuardFigures two = Due.house("g21 g10 g30", "010");
            Edge.aside(two, 3, 29, "two of three", () -> two.cover());
            // 101 has no JUMP, 106 one that goes by both, as twice 5 is 10
            GuardFigures jump = Due.house("g11 g10 g31", "106");
            Edge.refused(jump, NONE, "a JUMP that goes by", () -> jump.cover());
            jump.change(2, 7);
            Edge.aside(jump, 3, 30, "a JUMP that does not", () -> jump.cover());
        });
        Edge.of(26, "how many such things there are by asked().", () -> {
            GuardFigures x = Due.house("e12 g00", "");
            Due.row(x, 0, 77);
            x.at(0, 0);
            Edge.aside(x, 0, 0, "none without figures, and no GUARD is needed", () -> x.cover());
            x.add(5);
            Edge.aside(x, 1, 9, "of one", () -> x.cover());
            x.add(6);
            Edge.aside(x, 1, 19, "of two", () -> x.cover());
            x.add(5);
            Edge.aside(x, 1, 29, "of three, without a JUMP", () -> x.cover());
            Due.write(x, "67890");
            Edge.aside(x, 1, 83, "of eight, without two JUMPS", () -> x.cover());
        });
        Edge.of(26, "NONE: not by all together.", () -> {
            GuardFigures x = Due.house("g00 g00", "1");
            Due.row(x, 0, 77);
            x.at(0, 0);
            Edge.refused(x, NONE, "nobody NOTICES a thing", () -> x.cover());
            GuardFigures y = Due.house("g10 h10", "12");
            Edge.refused(y, NONE, "the SWAP alone goes by", () -> y.cover());
            GuardFigures z = Due.house("g20 g20", "5");
            Edge.refused(z, NONE, "the first SLIP alone goes by", () -> z.cover());
            z.change(0, 4);
            Edge.refused(z, NONE, "the last SLIP alone goes by", () -> z.cover());
            // weights 1, 6, 1: by elevens the JUMP alone goes by
            GuardFigures jump = Due.house("g15 g15 e15", "112");
            Edge.refused(jump, NONE, "the JUMP goes by", () -> jump.cover());
        });
        Edge.of(26, "STATE: no GUARDS.", () -> {
            GuardFigures x = new GuardFigures();
            Edge.refused(x, STATE, "cover()", () -> x.cover());
        });
    }

    public static void main(String[] args) throws IOException {
        slips();
        swaps();
        jumps();
        best();
        cover();
        Edge.end(22, 26);
    }
}
