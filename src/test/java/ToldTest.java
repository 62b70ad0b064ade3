/** Promises 37 to 43: asked, upper, lower, count, finding, findings, digest. */
public final class ToldTest {
    private static final int BAD = GuardFigures.BAD, NONE = GuardFigures.NONE;

    private static void asked() {
        GuardFigures x = Due.house("g00 e12", "12");
        Due.is("37: before", x.asked(), 0);
        Due.row(x, 0, 6, 8);
        Due.told(x, "37: lay()", x.lay(0, 0, 7), 1, 6);
        Due.told(x, "37: at()", x.at(0, 1), 1, 8);
        Due.told(x, "37: mean()", x.mean(0), 1, 7);
        Due.told(x, "37: guard()", x.guard(1, 2), 1, 2);
        Due.told(x, "37: slips()", x.slips(0), 18, 0);
        x.at(0, 1);
        Due.told(x, "37: NONE of slips()", x.slips(1), NONE, 8);
        Due.told(x, "37: NONE of swaps()", x.swaps(1), NONE, 8);
        Due.told(x, "37: NONE of jumps()", x.jumps(1), NONE, 8);
        Due.told(x, "37: swaps()", x.swaps(0), 1, 0);
        Due.told(x, "37: cover()", x.cover(), 2, 19);
        Due.told(x, "37: best()", x.best(), 1, 0);
        Due.told(x, "37: near()", x.near(1, 7), 0, 12);
        Due.told(x, "37: NONE of near()", x.near(0, 1), NONE, 12);
        Due.row(x, 1, 1, -1);
        Due.told(x, "37: fills()", x.fills(1, 4, 1), 1, 11);
        Due.told(x, "37: NONE of fills()", x.fills(0, 4, 1), NONE, 11);
        Due.row(x, 1, 0, 0);
        // five KINDS, of which a CHAIN alone tells f
        Due.told(x, "37: test()", x.test(0, 1), 1, 4);
        int told = x.asked();
        x.row(2, 2);
        x.tear(2);
        x.copy(0, 0, 1, 0, 1);
        x.put(0, 0, 'g');
        x.fault(0);
        x.mark(1, 1);
        x.figure(0);
        x.swap(0);
        x.change(0, 5);
        x.drop();
        x.add(7);
        x.undo(3);
        x.keep(0);
        x.on(0);
        x.next(0, 0);
        x.kinds(0, 1);
        x.firsts(0, 1);
        x.duel(1, 2);
        x.odds(0, 6);
        x.mid(0, 6);
        x.lots(2, 3);
        x.count(3);
        x.findings(1);
        x.digest();
        x.house(0);
        Due.is("37: no other call tells it", x.asked(), told);
        x.at(0, 1);
        x.at(0, 9);
        x.lay(5, 0, 1);
        x.guard(9, 0);
        Due.is("37: refused ones do not", x.asked(), 8);
    }

    private static void upperAndLower() {
        GuardFigures x = Due.house("g00 g10", "5");
        Due.is("38: before", x.upper(), 0);
        Due.is("39: before", x.lower(), 1);
        x.odds(0, 8);
        Due.is("38: in lowest terms", x.upper(), 2);
        Due.is("39: in lowest terms", x.lower(), 3);
        x.mid(1, 3);
        Due.is("38: the last", x.upper(), 21);
        Due.is("39: the last", x.lower(), 4);
        x.odds(1, 8);
        Due.is("38: 0 by 1", x.upper(), 0);
        Due.is("39: 0 by 1", x.lower(), 1);
    }

    private static void count() {
        GuardFigures x = Due.house("g10 e20 b30 c40 d50 d60 h70", "052");
        x.swap(0);
        x.row(1, 3);
        x.row(4, 0);
        x.text(3, 0);
        x.text(2, 1);
        x.keep(0);
        x.keep(2);
        Due.is("40: GUARDS", x.count(0), 7);
        Due.is("40: figures", x.count(1), 3);
        Due.is("40: DEEDS", x.count(2), 4);
        Due.is("40: THE NUMBER", x.count(3), 502);
        // over 502: 7; 14 is 3; 21 is 10; 2 + 0 + 8 is 0; 7 + 1 is 8, twice and 3: 9; 3 + 3 is 6, twice and 3: 5;
        // a CHAIN by sevens: 5, 35 is 5, 35 + 2 is 7
        Due.is("40: RECKONED together", x.count(4), 7 + 3 + 10 + 0 + 9 + 5 + 7);
        Due.is("40: ROWS", x.count(6), 2);
        Due.is("40: TEXTS", x.count(7), 3);
        Due.is("40: kept HOUSES", x.count(8), 2);
        Due.is("40: ELEVENS", x.count(9), 2);
        Due.is("40: CROSS ones", x.count(10), 3);
        Due.is("40: count(11)", x.count(11), BAD);
        Due.is("40: count(-1)", x.count(-1), BAD);
        GuardFigures y = Due.house("g10 g20 e20 g00 h30 h50 b99", "");
        Due.is("40: without figures all NOTICE all SLIPS", y.count(5), 127);
        Due.is("40: without figures", y.count(3), 0);
        Due.write(y, "12");
        // b99 over two figures: weights 9 and 8; h50: a SLIP at PLACE 0 by 2 goes by
        Due.is("40: who NOTICE all SLIPS", y.count(5), 1 | 1 << 2 | 1 << 4 | 1 << 6);
    }

    private static void findings() {
        GuardFigures x = Due.house("g10 e10", "");
        Due.is("41: before any", x.finding(), 0);
        x.at(0, 0);
        Due.is("41: NOTHING", x.finding(), 1);
        x.row(0, 0);
        x.at(0, 0);
        Due.is("41: BEYOND", x.finding(), 2);
        x.mark(0, 1);
        Due.is("41: UNLIKE", x.finding(), 3);
        x.mean(0);
        Due.is("41: NOUGHT", x.finding(), 4);
        x.row(0, -1);
        Due.is("41: SIZE", x.finding(), 5);
        x.row(0, 41);
        x.drop();
        x.at(1, 0);
        x.add(5);
        Due.is("41: the latest, BAD and others are none", x.finding(), 1);
        int[] due = {BAD, 2, 1, 1, 1, 1, BAD};
        for (int f = 0; f <= 6; f++) {
            Due.is("42: findings(" + f + ")", x.findings(f), due[f]);
        }
        Due.is("42: findings(-1)", x.findings(-1), BAD);
        Due.is("41: findings() itself is none", x.finding(), 1);
    }

    private static long digestOf(long... all) {
        long h = 17;
        for (long v : all) {
            h = 31 * h + v;
        }
        return h;
    }

    private static void digest() {
        GuardFigures x = new GuardFigures();
        Due.is("43: a new object", x.digest(),
            digestOf(0, 0, 0, 0, 0, 0, 0, 0, 0, 0, 0, -1, -1, -1, -1, -1, -1, -1, -1, -1, -1, -1, -1, -1));
        Due.text(x, 1, "c50e12");
        x.house(1);
        x.text(3, 1);
        x.put(3, 0, 200);
        Due.row(x, 0, 7, -8);
        x.row(5, 0);
        x.add(3);
        x.keep(1);
        x.add(4);
        x.at(0, 1);
        x.at(9, 9);
        // over 34: 15 is 6, 20 is 2: 8; 3 + 12 is 4; a CROSS one by fives NOTICES all SLIPS
        Due.is("43: a house", x.digest(), digestOf(2, 2, 2, 34, 12, 3, 2, 2, 1, 1, 1,
            2, 5, 0, 8, 0, 1, 1, 2, 4, 0, -1, 1, -1,
            2, 7, -8, -1, -1, -1, -1, 0, -1, 6, 99, 53, 48, 101, 49, 50, -1, 1, -56));
        Due.is("43: asked() is not told", x.asked(), -8);
        Due.is("43: twice alike", x.digest(), x.digest());
        x.tear(0);
        x.row(0, 2);
        Due.is("43: what was torn is gone", x.at(0, 1) == 1 ? x.asked() : 1, 0);
    }

    private static void constants() {
        Due.is("BAD", GuardFigures.BAD, -1);
        Due.is("FULL", GuardFigures.FULL, -2);
        Due.is("FINDING", GuardFigures.FINDING, -3);
        Due.is("STATE", GuardFigures.STATE, -4);
        Due.is("SPENT", GuardFigures.SPENT, -6);
        Due.is("NONE", GuardFigures.NONE, -9);
    }

    public static void main(String[] args) {
        asked();
        upperAndLower();
        count();
        findings();
        digest();
        constants();
        Due.end();
    }
}
