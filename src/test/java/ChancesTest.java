/** Promises 34 to 36: odds, mid, lots. */
public final class ChancesTest {
    private static final int BAD = GuardFigures.BAD;

    private static void odds() {
        GuardFigures x = Due.house("g00 g50 g10 g19 c10", "19");
        Due.share(x, "34: none slips", x.odds(0, 0), 0, 1);
        Due.share(x, "34: both slip", x.odds(0, 12), 1, 1);
        // 1 - (9/12)^2
        Due.share(x, "34: nobody notices", x.odds(0, 3), 7, 16);
        // fives: both figures slip, and 5 and 45 less are -40
        Due.share(x, "34: both are to slip", x.odds(1, 3), 1, 16);
        // 1 more and 9 less
        Due.share(x, "34: 9 as 0", x.odds(2, 12), 0, 1);
        // weights 1, 0: the second alone
        Due.share(x, "34: the second alone", x.odds(3, 4), 2, 9);
        Due.is("34: odds(5, 0)", x.odds(5, 0), BAD);
        Due.is("34: odds(-1, 0)", x.odds(-1, 0), BAD);
        Due.is("34: odds(0, 13)", x.odds(0, 13), BAD);
        Due.is("34: odds(0, -1)", x.odds(0, -1), BAD);
        Due.is("34: refused: upper()", x.upper(), 2);
        Due.is("34: refused: lower()", x.lower(), 9);
        Due.is("34: aside", x.count(3), 19);
        GuardFigures y = Due.house("g00 g10", "");
        Due.share(y, "34: without figures", y.odds(0, 12), 0, 1);
        GuardFigures z = Due.house("g00 g10", "12345678");
        // 12^8 - 7^8
        Due.share(z, "34: 8 figures", z.odds(0, 5), 424216895, 429981696);
        Due.is("34: asked() is not told", z.asked(), 0);
    }

    private static void mid() {
        GuardFigures x = Due.house("g10 e10 d10 h10", "9");
        Due.share(x, "35: 9 or 0", x.mid(0, 4), 6, 1);
        Due.share(x, "35: always 9", x.mid(0, 0), 9, 1);
        Due.share(x, "35: always 0", x.mid(0, 12), 0, 1);
        // 18 + 1 is 9, or 1: 9 * 7/12 + 5/12
        Due.share(x, "35: a DOUBLE one", x.mid(2, 5), 17, 3);
        x.add(1);
        // 10, 0 (both modulo 11: 10, 11), 1, 2: by quarters
        Due.share(x, "35: modulo 11", x.mid(1, 6), 13, 4);
        Due.is("35: mid(4, 0)", x.mid(4, 0), BAD);
        Due.is("35: mid(-1, 0)", x.mid(-1, 0), BAD);
        Due.is("35: mid(0, 13)", x.mid(0, 13), BAD);
        Due.is("35: mid(0, -1)", x.mid(0, -1), BAD);
        Due.is("35: refused: upper()", x.upper(), 13);
        Due.is("35: refused: lower()", x.lower(), 4);
        GuardFigures y = Due.house("d99 g10", "");
        Due.share(y, "35: without figures", y.mid(0, 6), 0, 1);
    }

    private static void lots() {
        GuardFigures none = new GuardFigures();
        Due.is("36: without GUARDS", none.lots(1, 1), GuardFigures.STATE);
        Due.is("36: BAD ahead of STATE", none.lots(21, 1), BAD);
        GuardFigures x = Due.house("g10 g10", "");
        Due.is("36: lots(0, 1)", x.lots(0, 1), BAD);
        Due.is("36: lots(21, 1)", x.lots(21, 1), BAD);
        Due.is("36: lots(-1, 1)", x.lots(-1, 1), BAD);
        Due.is("36: lots(1, 0)", x.lots(1, 0), BAD);
        Due.is("36: lots(1, -1)", x.lots(1, -1), BAD);
        Due.is("36: lots(1, MAX)", x.lots(1, Integer.MAX_VALUE), BAD);
        Due.is("36: refused: DEEDS", x.count(2), 0);
        // 48271 modulo 4 is 3, its PLACE 377 modulo 8 is 1: nothing is there
        Due.is("36: a DEED of nothing", x.lots(1, 1), 0);
        Due.is("36: it counts", x.count(2), 1);
        Due.write(x, "77");
        // by 8, cut: 6033: a 3
        Due.is("36: a figure is changed", x.lots(1, 1), 2);
        Due.is("36: THE NUMBER", x.count(3), 73);
        Due.is("36: also if it was", x.lots(1, 1), 2);
        Due.is("36: DEEDS", x.count(2), 5);
        // 96542 modulo 4 is 2
        Due.is("36: the last one is TAKEN off", x.lots(1, 2), 1);
        // 193084 modulo 4 is 0, by 8: 24135
        Due.is("36: a 5 is PUT", x.lots(1, 4), 2);
        Due.is("36: THE NUMBER", x.count(3), 75);
        // 144813 modulo 4 is 1, by 8: 18101
        Due.is("36: a 1 is PUT", x.lots(1, 3), 3);
        Due.is("36: THE NUMBER", x.count(3), 751);
        // 2147483646 is -1: 2147483647 - 48271 = 2147435376 modulo 4 is 0, by 8: 268429422
        Due.is("36: the greatest seed", x.lots(1, 2147483646), 4);
        Due.is("36: THE NUMBER", x.count(3), 7512);
        x.undo(0);
        // 48271 (nothing), then 182605794 (TAKEN off: nothing), 1291394886 (likewise), 1914720637 (PUT, 0)
        Due.is("36: one from another", x.lots(4, 1), 1);
        Due.is("36: THE NUMBER", x.count(3), 1914720637L / 8 % 10);
        x.undo(0);
        Due.is("36: none to be TAKEN off", x.lots(1, 2), 0);
        Due.write(x, "12345678");
        Due.is("36: no ninth is PUT", x.lots(1, 4), 8);
        Due.is("36: THE NUMBER", x.count(3), 12345678);
        Due.is("36: DEEDS", x.count(2), 10);
        x.lots(20, 5);
        Due.is("36: FULL", x.lots(11, 5), GuardFigures.FULL);
        Due.is("36: BAD ahead of FULL", x.lots(21, 5), BAD);
        Due.is("36: refused: DEEDS", x.count(2), 30);
        x.lots(10, 5);
        Due.is("36: 40 are enough", x.count(2), 40);
        Due.is("36: FULL", x.lots(1, 5), GuardFigures.FULL);
    }

    public static void main(String[] args) {
        odds();
        mid();
        lots();
        Due.end();
    }
}
