/** Promises 1 to 7: a new object, row, lay, at, tear, copy, mean. */
public final class RowsTest {
    private static final int NOTHING = 1, BEYOND = 2, NOUGHT = 4, SIZE = 5;
    private static final int MIN = Integer.MIN_VALUE, MAX = Integer.MAX_VALUE;

    private static void newObject() {
        GuardFigures x = new GuardFigures();
        for (int what = 0; what <= 10; what++) {
            Due.is("1: count(" + what + ")", x.count(what), 0);
        }
        for (int f = 1; f <= 5; f++) {
            Due.is("1: findings(" + f + ")", x.findings(f), 0);
        }
        Due.is("1: finding()", x.finding(), 0);
        Due.is("1: asked()", x.asked(), 0);
        Due.is("1: upper()", x.upper(), 0);
        Due.is("1: lower()", x.lower(), 1);
        Due.is("1: figure(0)", x.figure(0), GuardFigures.BAD);
        Due.is("1: guard(0, 0)", x.guard(0, 0), GuardFigures.BAD);
    }

    private static void row() {
        GuardFigures x = new GuardFigures();
        Due.is("2: row(5, 40)", x.row(5, 40), 40);
        Due.is("2: row(0, 0)", x.row(0, 0), 0);
        Due.is("2: count(6)", x.count(6), 2);
        Due.is("2: row(0, 41)", x.row(0, 41), GuardFigures.BAD);
        Due.is("2: row(-1, 1)", x.row(-1, 1), GuardFigures.BAD);
        Due.is("2: row(6, -1)", x.row(6, -1), GuardFigures.BAD);
        Due.is("2: finding() is as it was", x.finding(), 0);
        Due.finding(x, SIZE, "2: row(5, -1)", () -> x.row(5, -1));
        Due.finding(x, SIZE, "2: row(5, MIN)", () -> x.row(5, MIN));
        Due.told(x, "2: at(5, 39) behind a refused row", x.at(5, 39), 1, 0);
        x.lay(5, 1, 77);
        Due.is("2: row(5, 2) anew", x.row(5, 2), 2);
        Due.told(x, "2: at(5, 1) is 0 again", x.at(5, 1), 1, 0);
        Due.finding(x, BEYOND, "2: at(5, 2)", () -> x.at(5, 2));
    }

    private static void layAndAt() {
        GuardFigures x = new GuardFigures();
        Due.is("3: lay(6, 0, 1)", x.lay(6, 0, 1), GuardFigures.BAD);
        Due.is("4: at(-1, 0)", x.at(-1, 0), GuardFigures.BAD);
        Due.finding(x, NOTHING, "3: lay(0, -1, 1)", () -> x.lay(0, -1, 1));
        Due.finding(x, NOTHING, "4: at(0, 0)", () -> x.at(0, 0));
        x.row(0, 3);
        Due.told(x, "3: lay(0, 2, MIN)", x.lay(0, 2, MIN), 1, 0);
        Due.told(x, "4: at(0, 2)", x.at(0, 2), 1, MIN);
        Due.told(x, "3: lay(0, 2, MAX)", x.lay(0, 2, MAX), 1, MIN);
        Due.told(x, "4: at(0, 2)", x.at(0, 2), 1, MAX);
        Due.finding(x, BEYOND, "3: lay(0, 3, 1)", () -> x.lay(0, 3, 1));
        Due.finding(x, BEYOND, "3: lay(0, -1, 1)", () -> x.lay(0, -1, 1));
        Due.finding(x, BEYOND, "4: at(0, 3)", () -> x.at(0, 3));
        Due.finding(x, BEYOND, "4: at(0, MAX)", () -> x.at(0, MAX));
        Due.finding(x, BEYOND, "4: at(0, MIN)", () -> x.at(0, MIN));
        Due.is("4: asked() is as it was", x.asked(), MAX);
    }

    private static void tear() {
        GuardFigures x = new GuardFigures();
        Due.is("5: tear(6)", x.tear(6), GuardFigures.BAD);
        Due.is("5: tear(-1)", x.tear(-1), GuardFigures.BAD);
        Due.finding(x, NOTHING, "5: tear(0)", () -> x.tear(0));
        x.row(0, 0);
        Due.is("5: tear(0)", x.tear(0), 1);
        Due.is("5: count(6)", x.count(6), 0);
        Due.finding(x, NOTHING, "5: tear(0) again", () -> x.tear(0));
    }

    private static void copy() {
        GuardFigures x = new GuardFigures();
        Due.row(x, 0, 1, 2, 3, 4, 5);
        Due.row(x, 1, 9, 9);
        Due.is("6: copy within, to the right", x.copy(0, 0, 0, 1, 4), 1);
        int[] right = {1, 1, 2, 3, 4};
        for (int i = 0; i < 5; i++) {
            Due.told(x, "6: at(0, " + i + ")", x.at(0, i), 1, right[i]);
        }
        Due.is("6: copy within, to the left", x.copy(0, 2, 0, 0, 3), 1);
        int[] left = {2, 3, 4, 3, 4};
        for (int i = 0; i < 5; i++) {
            Due.told(x, "6: at(0, " + i + ")", x.at(0, i), 1, left[i]);
        }
        Due.is("6: copy to another", x.copy(0, 3, 1, 0, 2), 1);
        Due.told(x, "6: at(1, 1)", x.at(1, 1), 1, 4);
        Due.is("6: copy of none behind the end", x.copy(0, 5, 1, 2, 0), 1);
        Due.finding(x, BEYOND, "6: none, but farther", () -> x.copy(0, 6, 1, 0, 0));
        Due.finding(x, BEYOND, "6: too many there", () -> x.copy(0, 0, 1, 0, 3));
        Due.finding(x, BEYOND, "6: too many here", () -> x.copy(1, 1, 0, 0, 2));
        Due.finding(x, BEYOND, "6: from -1", () -> x.copy(0, -1, 1, 0, 1));
        Due.finding(x, BEYOND, "6: to -1", () -> x.copy(0, 0, 1, -1, 1));
        Due.finding(x, BEYOND, "6: sums that run over", () -> x.copy(0, MAX, 1, MAX, MAX));
        Due.finding(x, SIZE, "6: fewer than none, ahead of NOTHING", () -> x.copy(4, 0, 5, 0, -1));
        Due.finding(x, NOTHING, "6: from a missing one", () -> x.copy(4, 0, 0, 0, 0));
        Due.finding(x, NOTHING, "6: to a missing one, ahead of BEYOND", () -> x.copy(0, 9, 4, 0, 0));
        Due.is("6: BAD ahead of SIZE", x.copy(6, 0, 0, 0, -1), GuardFigures.BAD);
        Due.is("6: BAD to", x.copy(0, 0, -1, 0, 0), GuardFigures.BAD);
        Due.told(x, "6: refused copies change nothing", x.at(1, 1), 1, 4);
    }

    private static void mean() {
        GuardFigures x = new GuardFigures();
        Due.is("7: mean(6)", x.mean(6), GuardFigures.BAD);
        Due.finding(x, NOTHING, "7: mean(0)", () -> x.mean(0));
        x.row(0, 0);
        Due.finding(x, NOUGHT, "7: mean(0) of none", () -> x.mean(0));
        Due.row(x, 1, 1, 2, 5);
        Due.told(x, "7: mean, cut", x.mean(1), 1, 2);
        Due.row(x, 1, -1, -2, -5);
        Due.told(x, "7: mean below 0, cut", x.mean(1), 1, -2);
        Due.row(x, 1, MAX, MAX, MAX);
        Due.told(x, "7: mean of the greatest", x.mean(1), 1, MAX);
        Due.row(x, 1, MIN, MIN);
        Due.told(x, "7: mean of the least", x.mean(1), 1, MIN);
    }

    public static void main(String[] args) {
        newObject();
        row();
        layAndAt();
        tear();
        copy();
        mean();
        Due.end();
    }
}
