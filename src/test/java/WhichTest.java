/** Promises 30 to 33: kinds, firsts, test, duel. */
public final class WhichTest {
    private static final int NOTHING = 1, UNLIKE = 3, SIZE = 5;
    private static final int BAD = GuardFigures.BAD, NONE = GuardFigures.NONE, STATE = GuardFigures.STATE;

    private static void kinds() {
        // FIRST 7, STEP 3 over 958: GUARD 7, ELEVEN 10, CROSS 5, CHAIN 5, BACK 6, DOUBLE 3
        int[] due = {0, 0, 0, 1 << 5, 0, 1 << 2 | 1 << 3, 1 << 4, 1, 0, 0, 1 << 1};
        GuardFigures x = Due.house("g73 d73 h00", "");
        for (int c = 0; c <= 10; c++) {
            Due.row(x, 0, 9, 5, 8, c);
            Due.is("30: kinds(0, 0), " + c, x.kinds(0, 0), due[c]);
            Due.is("30: whatever KIND it has, " + c, x.kinds(1, 0), due[c]);
        }
        Due.row(x, 0, 0, 0);
        // DOUBLE counts the figure; a CHAIN with STEP 3 tells 3
        Due.is("30: the shortest", x.kinds(0, 0), 1 | 1 << 1 | 1 << 2 | 1 << 4);
        Due.row(x, 0, 0, 0, 0, 0, 0, 0, 0, 0, 8);
        Due.is("30: the longest", x.kinds(2, 0), 1 << 5);
    }

    private static void firsts() {
        GuardFigures x = Due.house("g01 e30 h91 b00", "");
        // FIRST f, f + 1: 2 f + 4 (f + 1) is 6 f + 4, 0 modulo 10: f is 1 or 6
        Due.row(x, 0, 2, 4, 0);
        Due.is("31: firsts(0, 0)", x.firsts(0, 0), 1 << 1 | 1 << 6);
        Due.row(x, 0, 1, 10);
        Due.is("31: no weight 10", x.firsts(1, 0), 0);
        Due.row(x, 0, 2, 10);
        Due.is("31: 2 f is 10", x.firsts(1, 0), 1 << 5);
        // (1 + 1) f + 1 + 1 is 0 modulo 10: f is 4 or 9
        Due.row(x, 0, 1, 1, 0);
        Due.is("31: a CHAIN", x.firsts(2, 0), 1 << 4 | 1 << 9);
        Due.row(x, 0, 0, 0, 0);
        Due.is("31: all", x.firsts(3, 0), 1023);
    }

    private static void test() {
        GuardFigures x = Due.house("g73 g10 d10", "");
        Due.row(x, 0, 9, 5, 8, 5);
        // CROSS or CHAIN: f is 0: 0 and 3; they are told apart
        Due.told(x, "32: the first figure", x.test(0, 0), 0, 1);
        Due.row(x, 0, 9, 5, 8, 0);
        x.at(0, 2);
        Due.told(x, "32: there is no KIND", x.test(0, 0), NONE, 8);
        // FIRST 1, STEP 0 over 1: 1 for all but DOUBLE; over f alike, too
        Due.row(x, 0, 1, 1);
        Due.is("32: those KINDS", x.kinds(1, 0), 31);
        Due.told(x, "32: none are told apart", x.test(1, 0), 0, 5);
        Due.write(x, "95");
        // 95 and f: 14 + f; modulo 10 three (CHAIN, too), modulo 11 two
        Due.told(x, "32: by THE NUMBER", x.test(1, 0), 0, 3);
        Due.is("32: aside", x.count(3), 95);
        GuardFigures y = Due.house("g20 g20", "");
        Due.row(y, 0, 0, 0);
        // GUARD, ELEVEN, CROSS, CHAIN, BACK; 2 f, crossed, and f itself
        Due.is("32: those KINDS", y.kinds(0, 0), 31);
        Due.told(y, "32: 5 tells apart best", y.test(0, 0), 5, 2);
        Due.write(y, "0000000");
        Due.told(y, "32: 7 figures", y.test(0, 0), 5, 2);
        y.add(0);
        Due.is("32: there are 8", y.test(0, 0), STATE);
        Due.is("32: STATE ahead of NOTHING", y.test(0, 5), STATE);
        Due.is("32: BAD ahead of STATE", y.test(2, 0), BAD);
        Due.is("32: BAD ahead of STATE", y.test(0, 6), BAD);
    }

    private static int ask(GuardFigures x, int call, int i, int r) {
        return call == 30 ? x.kinds(i, r) : call == 31 ? x.firsts(i, r) : x.test(i, r);
    }

    private static void refused() {
        GuardFigures x = Due.house("g73 g10", "1");
        for (int n = 30; n <= 32; n++) {
            int call = n;
            Due.is(n + ": no GUARD", ask(x, n, 2, 5), BAD);
            Due.is(n + ": no GUARD", ask(x, n, -1, 5), BAD);
            Due.is(n + ": no ROW", ask(x, n, 0, 6), BAD);
            Due.is(n + ": no ROW", ask(x, n, 0, -1), BAD);
            Due.finding(x, NOTHING, n + ": missing", () -> ask(x, call, 0, 5));
            Due.row(x, 0);
            Due.finding(x, SIZE, n + ": none", () -> ask(x, call, 0, 0));
            Due.row(x, 0, 77);
            Due.finding(x, SIZE, n + ": one, ahead of UNLIKE", () -> ask(x, call, 0, 0));
            x.row(0, 10);
            Due.finding(x, SIZE, n + ": ten", () -> ask(x, call, 0, 0));
            Due.row(x, 0, 10, 1);
            Due.finding(x, UNLIKE, n + ": no figure 10", () -> ask(x, call, 0, 0));
            Due.row(x, 0, 0, -1, 1);
            Due.finding(x, UNLIKE, n + ": no figure -1", () -> ask(x, call, 0, 0));
            Due.row(x, 0, 0, 11);
            Due.finding(x, UNLIKE, n + ": no check 11", () -> ask(x, call, 0, 0));
            Due.row(x, 0, 0, -1);
            Due.finding(x, UNLIKE, n + ": no check -1", () -> ask(x, call, 0, 0));
        }
    }

    private static void duel() {
        GuardFigures x = Due.house("g10 e10 g00 b20 d10 h01 g20", "34");
        Due.is("33: no turn", x.duel(0, 0), 7);
        Due.is("33: one for much", x.duel(0, 1), 9);
        Due.is("33: the other one ends it", x.duel(0, 2), 0);
        Due.is("33: the first one ends it", x.duel(0, 3), 9);
        Due.is("33: four", x.duel(0, 4), 0);
        // 7 + f modulo 11: 10, but 6 can't be; so at the end of two 0 unless it would need 10 more
        Due.is("33: modulo 11, much", x.duel(1, 1), 10);
        // 1 can't become 0: it needs 10 more
        Due.is("33: modulo 11, little", x.duel(1, 2), 1);
        Due.is("33: weights of 0", x.duel(2, 3), 0);
        Due.is("33: a CHAIN with FIRST 0", x.duel(5, 1), 9);
        Due.is("33: twice, modulo 10", x.duel(6, 1), 8);
        Due.is("33: twice 7 and 3 and 2 f", x.duel(4, 1), 9);
        Due.is("33: duel(7, 0)", x.duel(7, 0), BAD);
        Due.is("33: duel(-1, 0)", x.duel(-1, 0), BAD);
        Due.is("33: duel(0, 5)", x.duel(0, 5), BAD);
        Due.is("33: duel(0, -1)", x.duel(0, -1), BAD);
        Due.is("33: aside", x.count(3), 34);
        Due.write(x, "00000");
        Due.is("33: one turn is left of four", x.duel(0, 4), 9);
        x.add(0);
        Due.is("33: none is left", x.duel(0, 4), 7);
    }

    public static void main(String[] args) {
        kinds();
        firsts();
        test();
        refused();
        duel();
        Due.end();
    }
}
