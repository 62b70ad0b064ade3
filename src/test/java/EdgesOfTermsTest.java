import java.io.IOException;
import java.util.ArrayList;
import java.util.List;
import java.util.function.ToIntFunction;

/** The edges that the document names under "Terms". */
public final class EdgesOfTermsTest {
    private static final int BAD = Edge.BAD, FULL = Edge.FULL, STATE = Edge.STATE, NONE = Edge.NONE;
    private static final int FINDING = GuardFigures.FINDING;
    private static final int NOTHING = Edge.NOTHING, BEYOND = Edge.BEYOND, UNLIKE = Edge.UNLIKE, NOUGHT = Edge.NOUGHT,
        SIZE = Edge.SIZE;
    private static final String SEVEN = "g11 e12 c13 h21 b31 d17 g50";

    private record Refused(String name, int due, ToIntFunction<GuardFigures> call) {
    }

    private static void of(String sentence, Runnable test) {
        Edge.of(Edge.TERMS, sentence, test);
    }

    private static void calls() {
        Edge.of(Edge.AHEAD, "An object is used for at most 512 calls after it has been made", () -> allCalls());
    }

    private static void allCalls() {
        GuardFigures x = new GuardFigures();
        x.row(0, 1);
        for (int call = 2; call <= 510; call++) {
            x.lay(0, 0, call);
        }
        Due.is("call 511: at(0, 0)", x.at(0, 0), 1);
        Due.is("call 512: asked()", x.asked(), 510);
        GuardFigures y = new GuardFigures();
        Due.text(y, 0, "g11e11");
        Due.is("call 8: house(0)", y.house(0), 2);
        for (int call = 9; call <= 511; call += 2) {
            Due.is("call " + call + ": add(7)", y.add(7), 1);
            Due.is("call " + (call + 1) + ": undo(0)", y.undo(0), 1);
        }
    }

    // ---- refused

    private static GuardFigures rich() {
        GuardFigures x = Due.house(SEVEN, "90210");
        x.change(1, 7);
        x.swap(0);
        x.keep(0);
        x.drop();
        x.keep(2);
        x.add(3);
        Due.row(x, 0, 7, -8, 9);
        x.row(1, 0);
        Due.row(x, 2, 0, 0, 11);
        x.row(3, 10);
        Due.row(x, 4, 1, 2, 3);
        x.text(1, 4);
        x.odds(6, 3);
        x.at(0, 1);
        return x;
    }

    private static GuardFigures fullOnes() {
        GuardFigures x = Edge.full("g10 e12", "12345678");
        x.keep(1);
        x.odds(0, 5);
        x.near(0, 6);
        return x;
    }

    private static GuardFigures newOne() {
        return new GuardFigures();
    }

    /** What undoing step by step, and what was kept, tells: the DEEDS themselves can't be seen otherwise. */
    private static List<Long> trail(GuardFigures x) {
        List<Long> told = new ArrayList<>();
        told.add(x.digest());
        for (int k = -1; k <= 2; k++) {
            told.add((long) (k < 0 ? 0 : x.on(k)));
            for (int n = x.count(2) - 1; n >= 0; n -= n > 12 ? 9 : 1) {
                told.add((long) x.undo(n));
                told.add(x.digest());
            }
        }
        return told;
    }

    private static final Refused[] OF_RICH = {
        new Refused("row(6, 1)", BAD, x -> x.row(6, 1)),
        new Refused("row(0, 41)", BAD, x -> x.row(0, 41)),
        new Refused("row(0, -1)", FINDING, x -> x.row(0, -1)),
        new Refused("lay(6, 0, 5)", BAD, x -> x.lay(6, 0, 5)),
        new Refused("lay(5, 0, 5)", FINDING, x -> x.lay(5, 0, 5)),
        new Refused("lay(0, 3, 5)", FINDING, x -> x.lay(0, 3, 5)),
        new Refused("at(0, 3)", FINDING, x -> x.at(0, 3)),
        new Refused("tear(5)", FINDING, x -> x.tear(5)),
        new Refused("copy(0, 0, 4, 1, 3)", FINDING, x -> x.copy(0, 0, 4, 1, 3)),
        new Refused("copy(0, 1, 4, 0, 3)", FINDING, x -> x.copy(0, 1, 4, 0, 3)),
        new Refused("copy(0, 0, 5, 0, 1)", FINDING, x -> x.copy(0, 0, 5, 0, 1)),
        new Refused("mean(1)", FINDING, x -> x.mean(1)),
        new Refused("text(0, 61)", BAD, x -> x.text(0, 61)),
        new Refused("text(0, -1)", FINDING, x -> x.text(0, -1)),
        new Refused("put(0, 27, 65)", FINDING, x -> x.put(0, 27, 65)),
        new Refused("put(3, 0, 65)", FINDING, x -> x.put(3, 0, 65)),
        new Refused("house(1)", STATE, x -> x.house(1)),
        new Refused("house(3)", FINDING, x -> x.house(3)),
        new Refused("house(4)", BAD, x -> x.house(4)),
        new Refused("guard(7, 0)", BAD, x -> x.guard(7, 0)),
        new Refused("guard(0, 5)", BAD, x -> x.guard(0, 5)),
        new Refused("mark(0, 1)", FINDING, x -> x.mark(0, 1)),
        new Refused("add(10)", BAD, x -> x.add(10)),
        new Refused("change(0, 7)", STATE, x -> x.change(0, 7)),
        new Refused("change(5, 1)", BAD, x -> x.change(5, 1)),
        new Refused("swap(4)", BAD, x -> x.swap(4)),
        new Refused("undo(-1)", BAD, x -> x.undo(-1)),
        new Refused("undo(10)", BAD, x -> x.undo(10)),
        new Refused("keep(3)", BAD, x -> x.keep(3)),
        new Refused("on(1)", FINDING, x -> x.on(1)),
        new Refused("on(3)", BAD, x -> x.on(3)),
        new Refused("slips(7)", BAD, x -> x.slips(7)),
        new Refused("near(0, 11)", BAD, x -> x.near(0, 11)),
        new Refused("fills(0, 0, 1)", FINDING, x -> x.fills(0, 0, 1)),
        new Refused("fills(0, 0, 2)", FINDING, x -> x.fills(0, 0, 2)),
        new Refused("kinds(0, 3)", FINDING, x -> x.kinds(0, 3)),
        new Refused("firsts(0, 2)", FINDING, x -> x.firsts(0, 2)),
        new Refused("test(0, 2)", FINDING, x -> x.test(0, 2)),
        new Refused("odds(0, 13)", BAD, x -> x.odds(0, 13)),
        new Refused("mid(7, 1)", BAD, x -> x.mid(7, 1)),
        new Refused("lots(21, 1)", BAD, x -> x.lots(21, 1)),
        new Refused("lots(1, 0)", BAD, x -> x.lots(1, 0)),
    };

    private static final Refused[] OF_FULL = {
        new Refused("add(1)", STATE, x -> x.add(1)),
        new Refused("drop()", FULL, x -> x.drop()),
        new Refused("change(0, 9)", FULL, x -> x.change(0, 9)),
        new Refused("swap(0)", FULL, x -> x.swap(0)),
        new Refused("lots(1, 1)", FULL, x -> x.lots(1, 1)),
        new Refused("next(0, 0)", STATE, x -> x.next(0, 0)),
        new Refused("test(0, 0)", STATE, x -> x.test(0, 0)),
    };

    private static final Refused[] OF_NEW = {
        new Refused("add(1)", STATE, x -> x.add(1)),
        new Refused("drop()", STATE, x -> x.drop()),
        new Refused("keep(0)", STATE, x -> x.keep(0)),
        new Refused("best()", STATE, x -> x.best()),
        new Refused("cover()", STATE, x -> x.cover()),
        new Refused("lots(1, 1)", STATE, x -> x.lots(1, 1)),
        new Refused("undo(1)", BAD, x -> x.undo(1)),
        new Refused("figure(0)", BAD, x -> x.figure(0)),
    };

    /** x is used up by it, so is its twin. */
    private static void changesNothing(Refused one, GuardFigures x, GuardFigures twin) {
        if (one.due == FINDING) {
            int asked = x.asked();
            long upper = x.upper(), lower = x.lower();
            Due.is(one.name, one.call.applyAsInt(x), FINDING);
            Due.is("asked() behind " + one.name, x.asked(), asked);
            Due.is("upper() behind " + one.name, x.upper(), upper);
            Due.is("lower() behind " + one.name, x.lower(), lower);
        } else {
            Edge.refused(x, one.due, one.name, () -> one.call.applyAsInt(x));
        }
        Due.is("all that is kept, behind " + one.name, trail(x).equals(trail(twin)) ? 1 : 0, 1);
    }

    private static void refused() {
        of("Refused is, the first of these that fits, in this order: BAD -1 (a number that is none, or not as told)", () -> {
            GuardFigures x = newOne();
            Edge.refused(x, BAD, "row(6, -1), ahead of SIZE", () -> x.row(6, -1));
            Edge.refused(x, BAD, "lay(6, 0, 0), ahead of NOTHING", () -> x.lay(6, 0, 0));
            Edge.refused(x, BAD, "copy(6, 0, 0, 0, -1), ahead of SIZE", () -> x.copy(6, 0, 0, 0, -1));
            Edge.refused(x, BAD, "copy(0, 0, 6, 0, 0), ahead of NOTHING", () -> x.copy(0, 0, 6, 0, 0));
            Edge.refused(x, BAD, "text(4, -1), ahead of SIZE", () -> x.text(4, -1));
            Edge.refused(x, BAD, "put(4, 0, 0), ahead of NOTHING", () -> x.put(4, 0, 0));
            Edge.refused(x, BAD, "add(10), ahead of STATE", () -> x.add(10));
            Edge.refused(x, BAD, "keep(3), ahead of STATE", () -> x.keep(3));
            Edge.refused(x, BAD, "lots(0, 1), ahead of STATE", () -> x.lots(0, 1));
            GuardFigures y = fullOnes();
            Edge.refused(y, BAD, "next(0, 11), ahead of STATE", () -> y.next(0, 11));
            Edge.refused(y, BAD, "test(2, 5), ahead of STATE", () -> y.test(2, 5));
            Edge.refused(y, BAD, "fills(0, 11, 5), ahead of NOTHING", () -> y.fills(0, 11, 5));
            Edge.refused(y, BAD, "mark(0, 0), ahead of UNLIKE", () -> y.mark(0, 0));
        });
        of("FULL -2, STATE -4 (not now), SPENT -6 (more than told), FINDING -3 (finding() tells which)", () -> {
            GuardFigures x = fullOnes();
            Edge.refused(x, STATE, "test(0, 5), ahead of NOTHING", () -> x.test(0, 5));
            x.row(5, 1);
            Edge.refused(x, STATE, "test(0, 5), ahead of SIZE", () -> x.test(0, 5));
            Due.row(x, 5, 10, 10);
            Edge.refused(x, STATE, "test(0, 5), ahead of UNLIKE", () -> x.test(0, 5));
            x.undo(7);
            Edge.found(x, UNLIKE, "test(0, 5), once there are 7", () -> x.test(0, 5));
        });
        of("unless a call says so otherwise", () -> {
            GuardFigures x = Due.house("g10 e10", "");
            for (int d = 0; d < 20; d++) {
                Due.is("add(1)", x.add(1), 1);
                Due.is("drop()", x.drop(), 1);
            }
            Edge.refused(x, STATE, "drop(), ahead of FULL", () -> x.drop());
            Edge.refused(x, FULL, "add(1)", () -> x.add(1));
        });
        of("NONE -9.", () -> {
            GuardFigures x = Due.house("e10 e12", "1");
            Due.is("NONE", NONE, -9);
            Edge.refused(x, -9, "slips(0)", () -> x.slips(0));
            Edge.refused(x, -9, "near(0, 10)", () -> x.near(0, 10));
            Edge.refused(x, -9, "fault(0)", () -> x.fault(0));
        });
        of("What is refused changes nothing but finding(), findings().", () -> {
            for (Refused one : OF_RICH) {
                changesNothing(one, rich(), rich());
            }
            for (Refused one : OF_FULL) {
                changesNothing(one, fullOnes(), fullOnes());
            }
            for (Refused one : OF_NEW) {
                changesNothing(one, newOne(), newOne());
            }
        });
    }

    private static void findings() {
        of("1 NOTHING (a ROW, a TEXT, a kept HOUSE that is missing)", () -> {
            GuardFigures x = newOne();
            Edge.found(x, NOTHING, "a ROW", () -> x.at(5, 0));
            Edge.found(x, NOTHING, "a TEXT", () -> x.fault(3));
            Edge.found(x, NOTHING, "a kept HOUSE", () -> x.on(2));
        });
        of("2 BEYOND (a place that there is not)", () -> {
            GuardFigures x = newOne();
            x.row(0, 40);
            x.text(0, 60);
            Edge.found(x, BEYOND, "of a ROW", () -> x.at(0, 40));
            Edge.found(x, BEYOND, "of a TEXT", () -> x.put(0, 60, 1));
        });
        of("3 UNLIKE (a GUARD of another KIND; a number that is none)", () -> {
            GuardFigures x = Due.house("g10 e10", "");
            Edge.found(x, UNLIKE, "an ELEVEN as a CROSS one", () -> x.mark(1, 2));
            Due.row(x, 0, 10, 0);
            Edge.found(x, UNLIKE, "no figure", () -> x.kinds(0, 0));
        });
        of("4 NOUGHT (shared among none)", () -> {
            GuardFigures x = newOne();
            x.row(0, 0);
            Edge.found(x, NOUGHT, "mean(0)", () -> x.mean(0));
        });
        of("5 SIZE (fewer than none; not as many as due)", () -> {
            GuardFigures x = Due.house("g10 e10", "");
            Edge.found(x, SIZE, "fewer than none", () -> x.row(0, -1));
            x.row(0, 1);
            Edge.found(x, SIZE, "not as many as due", () -> x.kinds(0, 0));
        });
    }

    private static void told() {
        of("in lowest terms, the lower number above 0 (0 by 1)", () -> {
            GuardFigures x = Due.house("g00 g10", "5");
            Due.share(x, "6 of 12", x.odds(0, 6), 1, 2);
            Due.share(x, "5 of 12", x.odds(0, 5), 5, 12);
            Due.share(x, "12 of 12", x.odds(0, 12), 1, 1);
            Due.share(x, "0 of 12", x.odds(0, 0), 0, 1);
            Due.share(x, "more than 1", x.mid(1, 6), 11, 2);
        });
        of("Sets (of GUARDS, KINDS, figures 0 .. 9) are told by bits.", () -> {
            GuardFigures x = Due.house("g00g00g00g00g00g00e12", "12");
            Due.is("the last GUARD of 7", x.cover(), 1 << 6);
            Due.is("the last GUARD of 7", x.count(5), 1 << 6);
            Due.is("all figures", x.next(0, 0), 1023);
            Due.is("no figure", x.next(0, 1), 0);
            GuardFigures y = Due.house("g10 h10", "");
            Due.is("figure 9", y.next(0, 9), 1 << 9);
            Due.is("figure 0", y.next(0, 0), 1);
            Due.row(y, 0, 9, 9);
            Due.is("all KINDS", y.kinds(0, 0), 63);
            Due.row(y, 0, 8, 7);
            Due.is("the last KIND", y.kinds(0, 0), 1 << 5);
            Due.row(y, 0, 0, 5);
            Due.is("no KIND", y.kinds(0, 0), 0);
        });
    }

    // ---- rows, texts, houses

    private static void rowsAndTexts() {
        of("ROWS 0 .. 5 are rows of 0 to 40 ints", () -> {
            GuardFigures x = newOne();
            for (int r = 0; r <= 5; r++) {
                Due.is("row(" + r + ", 40)", x.row(r, 40), 40);
                Due.told(x, "lay(" + r + ", 39)", x.lay(r, 39, 100 + r), 1, 0);
                Due.told(x, "lay(" + r + ", 0)", x.lay(r, 0, 200 + r), 1, 0);
            }
            for (int r = 0; r <= 5; r++) {
                Due.told(x, "at(" + r + ", 39)", x.at(r, 39), 1, 100 + r);
                Due.told(x, "at(" + r + ", 0)", x.at(r, 0), 1, 200 + r);
                Due.is("row(" + r + ", 0)", x.row(r, 0), 0);
            }
            Due.is("count(6)", x.count(6), 6);
            Edge.refused(x, BAD, "row(-1, 0)", () -> x.row(-1, 0));
            Edge.refused(x, BAD, "row(6, 0)", () -> x.row(6, 0));
            Edge.refused(x, BAD, "row(0, 41)", () -> x.row(0, 41));
        });
        of("TEXTS 0 .. 3 rows of 0 to 60 bytes", () -> {
            GuardFigures x = newOne();
            for (int t = 0; t <= 3; t++) {
                Due.is("text(" + t + ", 60)", x.text(t, 60), 60);
                Due.is("put(" + t + ", 59)", x.put(t, 59, 10 + t), 1032);
                Due.is("put(" + t + ", 0)", x.put(t, 0, 20 + t), 1032);
            }
            for (int t = 0; t <= 3; t++) {
                Due.is("put(" + t + ", 59)", x.put(t, 59, 0), 1010 + t);
                Due.is("put(" + t + ", 0)", x.put(t, 0, 0), 1020 + t);
                Due.is("text(" + t + ", 0)", x.text(t, 0), 0);
            }
            Due.is("count(7)", x.count(7), 4);
            Edge.refused(x, BAD, "text(-1, 0)", () -> x.text(-1, 0));
            Edge.refused(x, BAD, "text(4, 0)", () -> x.text(4, 0));
            Edge.refused(x, BAD, "text(0, 61)", () -> x.text(0, 61));
        });
        of("or missing (at first)", () -> {
            GuardFigures x = newOne();
            for (int n = 0; n <= 5; n++) {
                int r = n;
                Edge.found(x, NOTHING, "mean(" + r + ")", () -> x.mean(r));
            }
            for (int n = 0; n <= 3; n++) {
                int t = n;
                Edge.found(x, NOTHING, "fault(" + t + ")", () -> x.fault(t));
            }
        });
    }

    private static void fault(String signs, int due) {
        GuardFigures x = newOne();
        Due.text(x, 0, signs);
        Due.is("fault of '" + signs + "'", x.fault(0), due);
    }

    private static void house(String signs, int due) {
        GuardFigures x = newOne();
        Due.text(x, 3, signs);
        Due.is("fault of '" + signs + "'", x.fault(3), NONE);
        Due.is("house of '" + signs + "'", x.house(3), due);
    }

    private static void houses() {
        of("A HOUSE (without GUARDS at first)", () -> {
            GuardFigures x = newOne();
            Due.is("count(0)", x.count(0), 0);
            Edge.refused(x, BAD, "guard(0, 0)", () -> x.guard(0, 0));
            Edge.refused(x, STATE, "best()", () -> x.best());
        });
        of("blanks (32) ahead, between, behind as many as wanted", () -> {
            house("g11e22", 2);
            house(" ".repeat(54) + "g11e22", 2);
            house("g11" + " ".repeat(54) + "e22", 2);
            house("g11e22" + " ".repeat(54), 2);
            house("     g11         e22        c33       ", 3);
            fault("\tg11e22", 0);
            fault("g11\0e22", 3);
            fault("g11e22\n", 6);
        });
        of("none within items", () -> {
            fault("g 11e22", 1);
            fault("g1 1e22", 2);
            fault("g11e 22", 4);
            fault("g11e2 2", 5);
        });
        of("GUARDS (2 to 7; 0, 1, .. as they come)", () -> {
            fault("g11", 3);
            house("g11e22", 2);
            house("g11e22c33h44b55d66g77", 7);
            fault("g11e22c33h44b55d66g77e88", 21);
            GuardFigures x = Due.house("d66 b55 h44 c33 e22 g11 d00", "");
            int[] kinds = {5, 4, 3, 2, 1, 0, 5};
            for (int i = 0; i < 7; i++) {
                Due.told(x, "the KIND of " + i, x.guard(i, 0), 1, kinds[i]);
            }
        });
        of("its FIRST weight (0 .. 9), its STEP (0 .. 9; one figure each)", () -> {
            GuardFigures x = Due.house("g09 g90", "");
            Due.told(x, "guard(0, 1)", x.guard(0, 1), 1, 0);
            Due.told(x, "guard(0, 2)", x.guard(0, 2), 1, 9);
            Due.told(x, "guard(1, 1)", x.guard(1, 1), 1, 9);
            Due.told(x, "guard(1, 2)", x.guard(1, 2), 1, 0);
            fault("g110 e22", 3);
        });
    }

    private static void faults() {
        of("A FAULT is the first place at which it can't go on so", () -> {
            fault("x11 y22", 0);
            fault("g1x y22", 2);
            fault(" g11 g1", 7);
        });
        of("(a letter,", () -> {
            // beside each letter of a KIND there is one that is none
            for (char sign : "afijBCDEGH".toCharArray()) {
                fault("g11 " + sign + "22", 4);
            }
            for (char sign : "gechbd".toCharArray()) {
                fault("g11 " + sign + "22", NONE);
            }
            fault("1", 0);
            fault(" ".repeat(59) + "x", 59);
        });
        of("a figure that is none such", () -> {
            fault("g/1 e22", 1);
            fault("g:1 e22", 1);
            fault("g1/ e22", 2);
            fault("g1: e22", 2);
            fault("gg11", 1);
        });
        of("an eighth GUARD: its place", () -> {
            fault("g11e22c33h44b55d66g77 e88", 22);
            fault("g11e22c33h44b55d66g77   e", 24);
            fault("g11e22c33h44b55d66g77   ", NONE);
        });
        of("the TEXT's size, if its end comes too early", () -> {
            fault("g", 1);
            fault("g1", 2);
            fault("g11e", 4);
            fault("g11e2", 5);
            fault("g11e22c", 7);
            fault(" ".repeat(55) + "g11e2", 60);
            fault(" ".repeat(56) + "g11e", 60);
            GuardFigures x = newOne();
            Due.text(x, 0, "g11e22");
            Due.text(x, 0, "g11e2");
            Due.is("what stood behind it is gone", x.fault(0), 5);
        });
        of("or there are less than 2 GUARDS", () -> {
            fault("g11", 3);
            fault("g11 ", 4);
            fault(" ".repeat(57) + "g11", 60);
        });
        of("or blanks alone", () -> {
            fault("", 0);
            fault(" ", 1);
            fault(" ".repeat(60), 60);
        });
    }

    private static void number() {
        of("THE NUMBER is a row of figures (0 .. 9), 8 at most, PLACES 0, 1, .. from the left on (none at first).", () -> {
            GuardFigures x = Due.house("g11 e22", "");
            Edge.refused(x, BAD, "figure(0)", () -> x.figure(0));
            Edge.refused(x, BAD, "add(-1)", () -> x.add(-1));
            Edge.refused(x, BAD, "add(10)", () -> x.add(10));
            Due.write(x, "09876543");
            Edge.refused(x, STATE, "a ninth", () -> x.add(2));
            for (int k = 0; k < 8; k++) {
                Due.is("figure(" + k + ")", x.figure(k), "09876543".charAt(k) - '0');
            }
            Edge.refused(x, BAD, "figure(8)", () -> x.figure(8));
        });
    }

    // ---- what guards reckon

    private static void reckons(String guard, String figures, int due) {
        GuardFigures x = Due.house(guard + "g00", figures);
        Due.told(x, guard + " over '" + figures + "'", x.guard(0, 3), 1, due);
    }

    private static void reckoning() {
        of("The WEIGHT of PLACE k is FIRST and k times STEP, modulo 10.", () -> {
            reckons("e45", "01", 9);
            reckons("e55", "01", 0);
            reckons("e99", "00000001", 2);
            reckons("e99", "1", 9);
            reckons("e09", "01", 9);
        });
        of("each one times the WEIGHT of its PLACE, all together, modulo 10", () -> {
            reckons("g10", "", 0);
            reckons("g10", "18", 9);
            reckons("g10", "19", 0);
            reckons("g90", "99999999", 8);
        });
        of("an ELEVEN so, but modulo 11", () -> {
            reckons("e10", "", 0);
            reckons("e10", "19", 10);
            reckons("e10", "29", 0);
            reckons("e90", "99999999", 10);
        });
        of("a CROSS one the figures of each such product together in place of it, all modulo 10", () -> {
            reckons("c10", "", 0);
            reckons("c30", "3", 9);
            reckons("c50", "2", 1);
            reckons("c90", "9", 9);
            reckons("c70", "7", 3);
            reckons("c10", "19", 0);
            reckons("c90", "99", 8);
        });
        of("a CHAIN: 0 at first, for each figure from the left on what it has so far times FIRST, and the figure, and STEP,"
            + " modulo 10", () -> {
            reckons("h95", "", 0);
            reckons("h95", "4", 9);
            reckons("h95", "5", 0);
            reckons("h35", "45", 7);
            reckons("h35", "54", 9);
            reckons("h09", "999", 8);
        });
        of("a BACK one as an ELEVEN, but the figures taken from the right end on (the last one at PLACE 0)", () -> {
            reckons("b12", "", 0);
            reckons("b12", "07", 7);
            reckons("b12", "70", 10);
            reckons("b55", "10", 0);
            reckons("b55", "1", 5);
        });
        of("a DOUBLE one twice what a CROSS one RECKONS, and how many figures there are, modulo 10", () -> {
            reckons("d10", "", 0);
            reckons("d10", "44", 8);
            reckons("d10", "45", 0);
            reckons("d10", "19", 2);
            reckons("d99", "00000000", 8);
            reckons("d50", "2", 3);
        });
    }

    private static void things() {
        of("A SLIP: one figure is another one.", () -> {
            GuardFigures x = Due.house("g00 h00", "");
            Edge.refused(x, NONE, "of no figure", () -> x.slips(0));
            x.add(0);
            Due.told(x, "of 0", x.slips(0), 9, 1);
            x.change(0, 9);
            Due.told(x, "of 9", x.slips(0), 9, 0);
            Due.write(x, "1234567");
            Due.told(x, "of 8 figures", x.slips(0), 72, 0);
        });
        of("A SWAP: two figures side by side that are unlike change places.", () -> {
            GuardFigures x = Due.house("g00 h00", "5");
            Edge.refused(x, NONE, "of one figure", () -> x.swaps(0));
            x.add(5);
            Edge.refused(x, NONE, "of alike ones", () -> x.swaps(0));
            x.add(6);
            Due.told(x, "of unlike ones", x.swaps(0), 1, 1);
        });
        of("A JUMP: so two with one figure between them.", () -> {
            GuardFigures x = Due.house("g00 h00", "56");
            Edge.refused(x, NONE, "of two figures", () -> x.jumps(0));
            x.add(5);
            Edge.refused(x, NONE, "of alike ones", () -> x.jumps(0));
            x.add(5);
            Due.told(x, "of unlike ones", x.jumps(0), 1, 1);
            x.change(0, 9);
            Due.told(x, "two of them", x.jumps(0), 2, 0);
        });
        of("A GUARD NOTICES such a thing, if it RECKONS another number then.", () -> {
            GuardFigures x = Due.house("g50 e50", "1");
            Due.told(x, "3, 5, 7, 9 are fives, too", x.slips(0), 4, 3);
            Edge.refused(x, NONE, "modulo 11 none is", () -> x.slips(1));
        });
        of("a figure is PUT at the right end, the last one is TAKEN off, a figure is CHANGED", () -> {
            GuardFigures x = Due.house("g50 e50", "12");
            Due.is("add(0)", x.add(0), 3);
            Edge.number(x, "add(0)", 3, 120, 3);
            Due.is("change(2, 9)", x.change(2, 9), 0);
            Edge.number(x, "change(2, 9)", 3, 129, 4);
            Due.is("drop()", x.drop(), 9);
            Edge.number(x, "drop()", 2, 12, 5);
        });
        of("two side by side change places (alike ones, too)", () -> {
            GuardFigures x = Due.house("g50 e50", "77");
            Due.is("swap(0)", x.swap(0), 7);
            Edge.number(x, "swap(0)", 2, 77, 3);
        });
        of("These are DEEDS (40 at most).", () -> {
            GuardFigures x = Edge.full("g10 e12", "12");
            Edge.number(x, "40 DEEDS", 2, 12, 40);
            Edge.refused(x, FULL, "add(1)", () -> x.add(1));
            Edge.refused(x, FULL, "drop()", () -> x.drop());
            Edge.refused(x, FULL, "change(0, 5)", () -> x.change(0, 5));
            Edge.refused(x, FULL, "swap(0)", () -> x.swap(0));
            Due.is("undo(39)", x.undo(39), 1);
            Due.is("add(1)", x.add(1), 3);
            Edge.refused(x, FULL, "add(1)", () -> x.add(1));
        });
        of("a ROW of 2 to 9 numbers: figures, and what it RECKONED over them, 0 .. 10", () -> {
            GuardFigures x = Due.house("g10 e10", "");
            Due.row(x, 0, 9, 9);
            Due.is("2 numbers", x.kinds(0, 0), 63);
            Due.row(x, 0, 1, 1, 1, 1, 1, 1, 1, 1, 8);
            Due.is("9 numbers", x.kinds(0, 0), 31);
            Due.row(x, 0, 1, 9, 10);
            Due.is("10 over them", x.kinds(0, 0), 1 << 1 | 1 << 4);
            Due.row(x, 0, 1, 9, 0);
            Due.is("0 over them", x.kinds(0, 0), 1 | 1 << 2 | 1 << 3);
        });
    }

    public static void main(String[] args) throws IOException {
        calls();
        refused();
        findings();
        told();
        rowsAndTexts();
        houses();
        faults();
        number();
        reckoning();
        things();
        Edge.end(Edge.AHEAD, Edge.TERMS);
    }
}
