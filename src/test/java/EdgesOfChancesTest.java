import java.io.IOException;
import java.math.BigInteger;

/** The edges that promises 34 to 36 name: odds, mid, lots. */
public final class EdgesOfChancesTest {
    private static final int BAD = Edge.BAD, FULL = Edge.FULL, STATE = Edge.STATE, MIN = Edge.MIN, MAX = Edge.MAX;
    private static final String TWO = "g10 e12";

    private static void odds() {
        Edge.of(34, "Chances that THE NUMBER is copied otherwise and a GUARD does not NOTICE", () -> {
            GuardFigures x = Due.house("g00 g50 e10", "12");
            Due.share(x, "1 less a quarter", x.odds(0, 6), 3, 4);
            Due.share(x, "both slip, or it NOTICES", x.odds(1, 6), 1, 4);
            Due.share(x, "it NOTICES", x.odds(2, 6), 0, 1);
            GuardFigures none = Due.house("g00 g50", "");
            Due.share(none, "no copy is another without figures", none.odds(0, 6), 0, 1);
        });
        Edge.of(34, "if each figure is copied as the next one (9 as 0)", () -> {
            // weights 1 and 9: 9 as 0 is 9 less, 0 as 1 is 9 more
            GuardFigures x = Due.house("g18 e10", "90");
            Due.share(x, "9 less and 9 more", x.odds(0, 12), 1, 1);
            GuardFigures y = Due.house("e10 e90", "9");
            Due.share(y, "a 10 would be 10", y.mid(0, 12), 0, 1);
            // by elevens 9 by 9 is 4, and 0 is another: a 9 that stays would go by
            Due.share(y, "0 is another", y.odds(1, 12), 0, 1);
        });
        Edge.of(34, "by p (0 .. 12) of 12, each by itself: 1.", () -> {
            GuardFigures x = Due.house("g00 g10", "12345678");
            Due.share(x, "0 of 12", x.odds(0, 0), 0, 1);
            Due.share(x, "12 of 12", x.odds(0, 12), 1, 1);
            // 12 by itself 8 times, less 11 so
            Due.share(x, "1 of 12", x.odds(0, 1), 429981696L - 214358881L, 429981696L);
            Due.share(x, "11 of 12", x.odds(0, 11), 429981695L, 429981696L);
            Due.is("THE NUMBER stays", x.count(3), 12345678);
            Due.is("asked() is not told", x.asked(), 0);
        });
        Edge.of(34, "BAD.", () -> {
            GuardFigures none = new GuardFigures();
            Edge.refused(none, BAD, "odds(0, 0) without GUARDS", () -> none.odds(0, 0));
            GuardFigures x = Due.house("g00 g10", "1");
            x.odds(0, 5);
            Edge.refused(x, BAD, "odds(2, 0)", () -> x.odds(2, 0));
            Edge.refused(x, BAD, "odds(-1, 0)", () -> x.odds(-1, 0));
            Edge.refused(x, BAD, "odds(0, 13)", () -> x.odds(0, 13));
            Edge.refused(x, BAD, "odds(0, -1)", () -> x.odds(0, -1));
            Edge.refused(x, BAD, "odds(0, MAX)", () -> x.odds(0, MAX));
            Edge.refused(x, BAD, "odds(0, MIN)", () -> x.odds(0, MIN));
        });
    }

    private static void mid() {
        Edge.of(35, "The mean of what it RECKONS over the copy: 1.", () -> {
            GuardFigures x = Due.house("g10 e10 d10", "9");
            Due.share(x, "0 of 12", x.mid(0, 0), 9, 1);
            Due.share(x, "12 of 12", x.mid(0, 12), 0, 1);
            Due.share(x, "5 of 12", x.mid(0, 5), 21, 4);
            x.add(1);
            // 10, 0, 1, 2
            Due.share(x, "modulo 11", x.mid(1, 6), 13, 4);
            // 0, 1, 1, 2; twice and 2: 2, 4, 4, 6
            Due.share(x, "a DOUBLE one", x.mid(2, 6), 4, 1);
            GuardFigures none = Due.house("g10 d10", "");
            Due.share(none, "without figures", none.mid(1, 6), 0, 1);
            GuardFigures eight = Due.house("h00 g10", "00000009");
            // the last figure alone: 9 by 11 of 12
            Due.share(eight, "8 figures", eight.mid(0, 1), 33, 4);
        });
        Edge.of(35, "BAD.", () -> {
            GuardFigures none = new GuardFigures();
            Edge.refused(none, BAD, "mid(0, 0) without GUARDS", () -> none.mid(0, 0));
            GuardFigures x = Due.house("g00 g10", "1");
            x.mid(1, 5);
            Edge.refused(x, BAD, "mid(2, 0)", () -> x.mid(2, 0));
            Edge.refused(x, BAD, "mid(-1, 0)", () -> x.mid(-1, 0));
            Edge.refused(x, BAD, "mid(0, 13)", () -> x.mid(0, 13));
            Edge.refused(x, BAD, "mid(0, -1)", () -> x.mid(0, -1));
        });
    }

    /** The seed whose first number is this one. */
    private static int seedOf(int lot) {
        BigInteger all = BigInteger.valueOf(2147483647);
        return BigInteger.valueOf(lot).multiply(BigInteger.valueOf(48271).modInverse(all)).mod(all).intValueExact();
    }

    /** One DEED by that number: THE NUMBER then. */
    private static void lot(String figures, int lot, int size, int number) {
        GuardFigures x = Due.house(TWO, figures);
        Due.is("lots(1, ..) by " + lot, x.lots(1, seedOf(lot)), size);
        Edge.number(x, figures + " by " + lot, size, number, figures.length() + 1);
        Due.is("undo", x.undo(figures.length()), 1);
        Edge.number(x, "undo", figures.length(), figures.isEmpty() ? 0 : Integer.parseInt(figures), figures.length());
    }

    private static void lots() {
        Edge.of(36, "n (1 .. 20) DEEDS truly by LOTS of a seed", () -> {
            GuardFigures x = Due.house(TWO, "");
            Due.is("lots(1, 4)", x.lots(1, 4), 1);
            Edge.number(x, "lots(1, 4)", 1, 5, 1);
            x.lots(20, 4);
            Due.is("20 DEEDS more", x.count(2), 21);
            Edge.refused(x, BAD, "lots(0, 4)", () -> x.lots(0, 4));
            Edge.refused(x, BAD, "lots(21, 4)", () -> x.lots(21, 4));
        });
        Edge.of(36, "a number comes from the one ahead by 48271 times it modulo 2147483647, the first from the seed"
            + " (1 .. 2147483646)", () -> {
            // 48271; -48271, that is 2147435376: 6033 by 8, at PLACE 377; 268429422 by 8
            lot("00", 48271, 2, 3);
            Due.is("seed of 48271", seedOf(48271), 1);
            lot("", 2147435376, 1, 2);
            Due.is("seed of 2147435376", seedOf(2147435376), 2147483646);
            GuardFigures x = Due.house(TWO, "");
            Due.is("the least seed", x.lots(1, 1), 0);
            Due.is("the greatest seed", x.lots(1, 2147483646), 1);
            Edge.refused(x, BAD, "seed 0", () -> x.lots(1, 0));
            Edge.refused(x, BAD, "seed MAX", () -> x.lots(1, MAX));
            // the second number comes from the first one
            GuardFigures y = Due.house(TWO, "");
            GuardFigures z = Due.house(TWO, "");
            y.lots(2, seedOf(72));
            z.lots(1, seedOf(72));
            z.lots(1, 72);
            Due.is("one from another", y.digest(), z.digest());
        });
        Edge.of(36, "f is it by 8, cut, modulo 10", () -> {
            lot("", 1, 1, 0);
            lot("", 8, 1, 1);
            lot("", 9, 1, 1);
            lot("", 72, 1, 9);
            lot("", 77, 1, 9);
            lot("", 80, 1, 0);
            lot("", 88, 1, 1);
        });
        Edge.of(36, "if it modulo 4 is 0 or 1, f is PUT", () -> {
            lot("7", 40, 2, 75);
            lot("7", 41, 2, 75);
            lot("1234567", 40, 8, 12345675);
        });
        Edge.of(36, "if it is 2, the last figure is TAKEN off", () -> {
            lot("7", 42, 0, 0);
            lot("12345678", 2147483646, 7, 1234567);
        });
        Edge.of(36, "if it is 3, the figure at PLACE (it by 128, cut, modulo 8) is f then (also if it was)", () -> {
            // PLACE 0 by 127, 1 by 131, 7 by 899, 0 again by 1027
            lot("12", 127, 2, 52);
            lot("12", 131, 2, 16);
            lot("12345678", 899, 8, 12345672);
            lot("12345678", 1027, 8, 82345678);
            lot("52", 127, 2, 52);
        });
        Edge.of(36, "each if it can be (else a DEED of nothing): how many figures there are.", () -> {
            lot("12345678", 40, 8, 12345678);
            lot("12345678", 41, 8, 12345678);
            lot("", 42, 0, 0);
            lot("", 127, 0, 0);
            lot("1", 131, 1, 1);
            lot("1234567", 899, 7, 1234567);
        });
        Edge.of(36, "BAD;", () -> {
            GuardFigures x = Due.house(TWO, "12");
            Edge.refused(x, BAD, "lots(0, 1)", () -> x.lots(0, 1));
            Edge.refused(x, BAD, "lots(-1, 1)", () -> x.lots(-1, 1));
            Edge.refused(x, BAD, "lots(21, 1)", () -> x.lots(21, 1));
            Edge.refused(x, BAD, "lots(MIN, 1)", () -> x.lots(MIN, 1));
            Edge.refused(x, BAD, "lots(MAX, 1)", () -> x.lots(MAX, 1));
            Edge.refused(x, BAD, "lots(1, 0)", () -> x.lots(1, 0));
            Edge.refused(x, BAD, "lots(1, -1)", () -> x.lots(1, -1));
            Edge.refused(x, BAD, "lots(1, MIN)", () -> x.lots(1, MIN));
            Edge.refused(x, BAD, "lots(1, MAX)", () -> x.lots(1, MAX));
            GuardFigures none = new GuardFigures();
            Edge.refused(none, BAD, "lots(21, 1), ahead of STATE", () -> none.lots(21, 1));
            Edge.refused(none, BAD, "lots(1, 0), ahead of STATE", () -> none.lots(1, 0));
        });
        Edge.of(36, "STATE: no GUARDS;", () -> {
            GuardFigures x = new GuardFigures();
            Edge.refused(x, STATE, "lots(1, 1)", () -> x.lots(1, 1));
            Edge.refused(x, STATE, "lots(20, 2147483646)", () -> x.lots(20, 2147483646));
        });
        Edge.of(36, "FULL: with n more there would be more than 40 DEEDS.", () -> {
            GuardFigures x = Due.house(TWO, "123");
            x.lots(20, 5);
            Edge.refused(x, FULL, "18 more than 23", () -> x.lots(18, 5));
            Edge.refused(x, FULL, "20 more than 23", () -> x.lots(20, 5));
            x.lots(17, 5);
            Due.is("17 more than 23", x.count(2), 40);
            Edge.refused(x, FULL, "1 more than 40", () -> x.lots(1, 5));
            x.undo(39);
            Due.is("1 more than 39", x.lots(1, 5) >= 0 ? x.count(2) : 0, 40);
        });
        Edge.of(36, "(FULL last.)", () -> {
            GuardFigures x = Edge.full(TWO, "12");
            Edge.refused(x, BAD, "lots(21, 1)", () -> x.lots(21, 1));
            Edge.refused(x, BAD, "lots(1, 0)", () -> x.lots(1, 0));
            Edge.refused(x, FULL, "lots(1, 1)", () -> x.lots(1, 1));
        });
    }

    public static void main(String[] args) throws IOException {
        odds();
        mid();
        lots();
        Edge.end(34, 36);
    }
}
