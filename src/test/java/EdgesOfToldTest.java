import java.io.IOException;
import java.util.function.ToIntFunction;

/** The edges that promises 37 to 43 name: asked, upper, lower, count, finding, findings, digest. */
public final class EdgesOfToldTest {
    private static final int BAD = Edge.BAD, NONE = Edge.NONE, MIN = Edge.MIN, MAX = Edge.MAX;
    private static final int FINDING = GuardFigures.FINDING;
    private static final int NOTHING = Edge.NOTHING, BEYOND = Edge.BEYOND, UNLIKE = Edge.UNLIKE, NOUGHT = Edge.NOUGHT,
        SIZE = Edge.SIZE;

    /** ROW 0 is 77, told last; ROW 1 an example, ROW 2 smeared; g00, that NOTICES nothing, and e12. */
    private static GuardFigures asking() {
        GuardFigures x = Due.house("g00 e12", "123");
        Due.row(x, 1, 0, 0);
        Due.row(x, 2, 1, -1);
        Due.row(x, 0, 77);
        Due.told(x, "at(0, 0)", x.at(0, 0), 1, 77);
        return x;
    }

    private static void tells(String call, int due, int asked, ToIntFunction<GuardFigures> made) {
        GuardFigures x = asking();
        Due.told(x, call, made.applyAsInt(x), due, asked);
    }

    private static void asked() {
        Edge.of(37, "What the latest lay(), at(), mean(), guard(), slips(), swaps(), jumps(), best(), cover(), near(), fills(),"
            + " test()", () -> {
            tells("lay(2, 1, 5)", 1, -1, x -> x.lay(2, 1, 5));
            tells("at(2, 0)", 1, 1, x -> x.at(2, 0));
            tells("mean(1)", 1, 0, x -> x.mean(1));
            tells("guard(1, 2)", 1, 2, x -> x.guard(1, 2));
            tells("slips(0)", 27, 0, x -> x.slips(0));
            tells("swaps(0)", 2, 0, x -> x.swaps(0));
            tells("jumps(0)", 1, 0, x -> x.jumps(0));
            tells("best()", 1, 0, x -> x.best());
            tells("cover()", 2, 30, x -> x.cover());
            tells("near(0, 0)", 0, 123, x -> x.near(0, 0));
            tells("fills(1, 4, 2)", 1, 11, x -> x.fills(1, 4, 2));
            // g00: a CHAIN alone tells f, a DOUBLE one is none of those KINDS
            tells("test(0, 1)", 1, 4, x -> x.test(0, 1));
        });
        Edge.of(37, "that was not refused", () -> {
            tells("lay(3, 0, 5)", FINDING, 77, x -> x.lay(3, 0, 5));
            tells("lay(2, 2, 5)", FINDING, 77, x -> x.lay(2, 2, 5));
            tells("at(2, 2)", FINDING, 77, x -> x.at(2, 2));
            tells("mean(3)", FINDING, 77, x -> x.mean(3));
            tells("guard(2, 2)", BAD, 77, x -> x.guard(2, 2));
            tells("slips(2)", BAD, 77, x -> x.slips(2));
            tells("swaps(2)", BAD, 77, x -> x.swaps(2));
            tells("jumps(2)", BAD, 77, x -> x.jumps(2));
            tells("near(0, 11)", BAD, 77, x -> x.near(0, 11));
            tells("fills(0, 0, 3)", FINDING, 77, x -> x.fills(0, 0, 3));
            tells("test(0, 3)", FINDING, 77, x -> x.test(0, 3));
        });
        Edge.of(37, "(nor answered NONE) told", () -> {
            tells("slips(1)", NONE, 77, x -> x.slips(1));
            tells("swaps(1)", NONE, 77, x -> x.swaps(1));
            tells("jumps(1)", NONE, 77, x -> x.jumps(1));
            tells("near(0, 1)", NONE, 77, x -> x.near(0, 1));
            tells("fills(0, 1, 2)", NONE, 77, x -> x.fills(0, 1, 2));
            tells("test(0, 1)", NONE, 0, x -> x.lay(1, 1, 9) == 1 ? x.test(0, 1) : BAD);
            GuardFigures none = Due.house("g00 g00", "1");
            Due.row(none, 0, 77);
            none.at(0, 0);
            Due.told(none, "cover()", none.cover(), NONE, 77);
        });
        Edge.of(37, "0 before.", () -> {
            GuardFigures x = new GuardFigures();
            Due.is("a new object", x.asked(), 0);
            x.row(0, 3);
            x.text(0, 3);
            x.put(0, 0, 99);
            x.best();
            x.mean(5);
            Due.is("other calls, refused ones", x.asked(), 0);
        });
    }

    private static void upperAndLower() {
        Edge.of(38, "The upper number that was told last; 0 before.", () -> {
            GuardFigures x = Due.house("g00 g10", "5");
            Due.is("before", x.upper(), 0);
            x.odds(0, 13);
            Due.is("refused", x.upper(), 0);
            x.odds(0, 8);
            Due.is("odds(0, 8)", x.upper(), 2);
            x.mid(1, 3);
            Due.is("mid(1, 3)", x.upper(), 21);
            x.mid(2, 3);
            Due.is("refused", x.upper(), 21);
            x.house(0);
            Due.is("a HOUSE anew", x.upper(), 21);
        });
        Edge.of(39, "Its lower number; 1 before.", () -> {
            GuardFigures x = Due.house("g00 g10", "5");
            Due.is("before", x.lower(), 1);
            x.mid(0, -1);
            Due.is("refused", x.lower(), 1);
            x.odds(0, 8);
            Due.is("odds(0, 8)", x.lower(), 3);
            x.mid(1, 3);
            Due.is("mid(1, 3)", x.lower(), 4);
            x.odds(1, 8);
            Due.is("0 by 1", x.lower(), 1);
        });
    }

    private static void count() {
        Edge.of(40, "0 GUARDS, 1 figures, 2 DEEDS", () -> {
            GuardFigures x = new GuardFigures();
            Due.is("GUARDS at first", x.count(0), 0);
            GuardFigures y = Edge.full("g11e22c33h44b55d66g77", "12345678");
            Due.is("7 GUARDS", y.count(0), 7);
            Due.is("8 figures", y.count(1), 8);
            Due.is("40 DEEDS", y.count(2), 40);
        });
        Edge.of(40, "3 THE NUMBER, as a number (0 without figures)", () -> {
            GuardFigures x = Due.house("g10 g10", "");
            Due.is("without figures", x.count(3), 0);
            Due.write(x, "00");
            Due.is("00", x.count(3), 0);
            x.add(7);
            Due.is("007", x.count(3), 7);
            Due.is("8 figures", Due.house("g10 g10", "99999999").count(3), 99999999);
            Due.is("a new object", new GuardFigures().count(3), 0);
        });
        Edge.of(40, "4 what all RECKON together", () -> {
            GuardFigures x = Due.house("e10e10e10e10e10e10e10", "");
            Due.is("over none", x.count(4), 0);
            Due.write(x, "19");
            Due.is("7 by 10, not cut", x.count(4), 70);
            Due.is("without GUARDS", new GuardFigures().count(4), 0);
        });
        Edge.of(40, "5 GUARDS who NOTICE all SLIPS (bits)", () -> {
            GuardFigures x = Due.house("g00g10g20g30g00g00e10", "");
            Due.is("without figures all of them", x.count(5), 127);
            x.add(1);
            Due.is("of 1", x.count(5), 1 << 1 | 1 << 3 | 1 << 6);
            Due.is("GUARD 0 alone", Due.house("e10 g00", "1").count(5), 1);
            GuardFigures none = Due.house("g00 g50", "1");
            Due.is("none of them", none.count(5), 0);
            Due.is("without GUARDS", new GuardFigures().count(5), 0);
        });
        Edge.of(40, "6 ROWS, 7 TEXTS that are there, 8 kept HOUSES", () -> {
            GuardFigures x = Due.house("g10 g10", "1");
            for (int r = 0; r <= 5; r++) {
                Due.is("ROWS", x.count(6), r);
                x.row(r, r == 0 ? 0 : 40);
            }
            Due.is("6 ROWS", x.count(6), 6);
            x.tear(0);
            Due.is("5 ROWS", x.count(6), 5);
            for (int t = 1; t <= 3; t++) {
                Due.is("TEXTS", x.count(7), t);
                x.text(t, t == 1 ? 0 : 60);
            }
            Due.is("4 TEXTS", x.count(7), 4);
            for (int k = 0; k <= 2; k++) {
                Due.is("kept HOUSES", x.count(8), k);
                x.keep(k);
                x.keep(k);
            }
            Due.is("3 kept HOUSES", x.count(8), 3);
            x.on(2);
            Due.is("still kept", x.count(8), 3);
        });
        Edge.of(40, "9 ELEVENS (BACK ones, too), 10 CROSS ones (DOUBLE ones, too).", () -> {
            GuardFigures x = Due.house("g10 e10 b10 b10 c10 d10 h10", "");
            Due.is("ELEVENS", x.count(9), 3);
            Due.is("CROSS ones", x.count(10), 2);
            GuardFigures none = Due.house("g10 h10", "");
            Due.is("no ELEVENS", none.count(9), 0);
            Due.is("no CROSS ones", none.count(10), 0);
            GuardFigures all = Due.house("b10b10b10b10b10b10b10", "");
            Due.is("7 ELEVENS", all.count(9), 7);
        });
        Edge.of(40, "BAD.", () -> {
            GuardFigures x = Due.house("g10 h10", "12");
            Edge.refused(x, BAD, "count(11)", () -> x.count(11));
            Edge.refused(x, BAD, "count(-1)", () -> x.count(-1));
            Edge.refused(x, BAD, "count(MAX)", () -> x.count(MAX));
            Edge.refused(x, BAD, "count(MIN)", () -> x.count(MIN));
        });
    }

    private static void findings() {
        Edge.of(41, "The latest FINDING (0 before any).", () -> {
            GuardFigures x = Due.house("g10 e10", "");
            Due.is("before", x.finding(), 0);
            x.row(9, 9);
            x.drop();
            x.slips(0);
            Due.is("BAD, STATE, NONE are none", x.finding(), 0);
            Edge.found(x, NOTHING, "NOTHING", () -> x.tear(0));
            x.row(0, 0);
            Due.is("it stays", x.finding(), NOTHING);
            Edge.found(x, BEYOND, "BEYOND", () -> x.at(0, 0));
            Edge.found(x, UNLIKE, "UNLIKE", () -> x.mark(0, 1));
            Edge.found(x, NOUGHT, "NOUGHT", () -> x.mean(0));
            Edge.found(x, SIZE, "SIZE", () -> x.text(0, -1));
            Edge.found(x, NOTHING, "NOTHING again", () -> x.tear(5));
            x.house(0);
            Due.is("a HOUSE anew", x.finding(), NOTHING);
        });
        Edge.of(42, "How often a FINDING (1 .. 5) was answered.", () -> {
            GuardFigures x = Due.house("g10 e10", "");
            for (int f = 1; f <= 5; f++) {
                Due.is("findings(" + f + ") before", x.findings(f), 0);
            }
            for (int n = 1; n <= 30; n++) {
                x.tear(5);
                Due.is("findings(1)", x.findings(1), n);
            }
            x.row(0, 0);
            x.mean(0);
            x.mark(0, 5);
            x.mark(1, 5);
            x.row(0, -1);
            x.row(0, -1);
            x.copy(0, 0, 0, 0, -1);
            x.at(0, 0);
            int[] due = {30, 1, 2, 1, 3};
            for (int f = 1; f <= 5; f++) {
                Due.is("findings(" + f + ")", x.findings(f), due[f - 1]);
            }
        });
        Edge.of(42, "BAD.", () -> {
            GuardFigures x = new GuardFigures();
            x.tear(0);
            Edge.refused(x, BAD, "findings(0)", () -> x.findings(0));
            Edge.refused(x, BAD, "findings(6)", () -> x.findings(6));
            Edge.refused(x, BAD, "findings(-1)", () -> x.findings(-1));
            Edge.refused(x, BAD, "findings(MAX)", () -> x.findings(MAX));
            Edge.refused(x, BAD, "findings(MIN)", () -> x.findings(MIN));
        });
    }

    private static long digestOf(int... all) {
        long h = 17;
        for (int v : all) {
            h = 31 * h + v;
        }
        return h;
    }

    private static void digest() {
        Edge.of(43, "h = 17; then h = 31 h + v for each v: count() 0 to 10; of each GUARD guard() 0 to 4", () -> {
            GuardFigures x = new GuardFigures();
            Due.text(x, 3, "g50d10");
            x.house(3);
            x.add(1);
            // g50: 5, four SLIPS go by; d10: 3, 2 f and 1 is 3 by 6, too
            Due.is("a HOUSE", x.digest(), digestOf(2, 1, 1, 1, 8, 0, 0, 1, 0, 0, 1, 0, 5, 0, 5, 4, 5, 1, 0, 3, 1,
                -1, -1, -1, -1, -1, -1, -1, -1, -1, -1, -1, -1, 6, 103, 53, 48, 100, 49, 48));
            Due.is("asked() is not told", x.asked(), 0);
        });
        Edge.of(43, "of each kept HOUSE how many DEEDS (-1: missing)", () -> {
            GuardFigures x = new GuardFigures();
            Due.text(x, 0, "g00g00");
            x.house(0);
            x.keep(0);
            x.add(0);
            x.keep(2);
            x.undo(0);
            x.text(0, 0);
            Due.is("0, missing, 1", x.digest(), digestOf(2, 0, 0, 0, 0, 3, 0, 1, 2, 0, 0, 0, 0, 0, 0, 0, 0, 0, 0, 0, 0,
                0, -1, 1, -1, -1, -1, -1, -1, -1, 0, -1, -1, -1));
        });
        Edge.of(43, "of each ROW its size (-1: missing) and places", () -> {
            GuardFigures x = new GuardFigures();
            x.row(0, 0);
            Due.row(x, 4, MIN, MAX, -1);
            x.row(5, 9);
            x.tear(5);
            Due.is("none, missing ones, three", x.digest(), digestOf(0, 0, 0, 0, 0, 0, 2, 0, 0, 0, 0, -1, -1, -1,
                0, -1, -1, -1, 3, MIN, MAX, -1, -1, -1, -1, -1, -1));
            int[] most = new int[11 + 3 + 1 + 40 + 5 + 4];
            java.util.Arrays.fill(most, -1);
            java.util.Arrays.fill(most, 0, 11, 0);
            most[6] = 1;
            most[14] = 40;
            GuardFigures y = new GuardFigures();
            y.row(0, 40);
            for (int i = 0; i < 40; i++) {
                y.lay(0, i, MAX - i);
                most[15 + i] = MAX - i;
            }
            Due.is("40, so that h runs over", y.digest(), digestOf(most));
        });
        Edge.of(43, "of each TEXT likewise.", () -> {
            GuardFigures x = new GuardFigures();
            x.text(0, 0);
            x.text(3, 3);
            x.put(3, 0, 255);
            x.put(3, 1, 128);
            Due.is("none, missing ones, three", x.digest(), digestOf(0, 0, 0, 0, 0, 0, 0, 2, 0, 0, 0, -1, -1, -1,
                -1, -1, -1, -1, -1, -1, 0, -1, -1, 3, -1, -128, 32));
        });
    }

    public static void main(String[] args) throws IOException {
        asked();
        upperAndLower();
        count();
        findings();
        digest();
        Edge.end(37, 43);
    }
}
