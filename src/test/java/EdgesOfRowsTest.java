import java.io.IOException;

/** The edges that promises 1 to 7 name: a new object, row, lay, at, tear, copy, mean. */
public final class EdgesOfRowsTest {
    private static final int BAD = Edge.BAD, MIN = Edge.MIN, MAX = Edge.MAX;
    private static final int NOTHING = Edge.NOTHING, BEYOND = Edge.BEYOND, NOUGHT = Edge.NOUGHT, SIZE = Edge.SIZE;

    private static void ints(GuardFigures x, int r, int... due) {
        for (int i = 0; i < due.length; i++) {
            Due.told(x, "at(" + r + ", " + i + ")", x.at(r, i), 1, due[i]);
        }
    }

    private static void newObject() {
        Edge.of(1, "No ROWS, TEXTS, GUARDS; no NUMBER.", () -> {
            GuardFigures x = new GuardFigures();
            for (int what = 0; what <= 10; what++) {
                Due.is("count(" + what + ")", x.count(what), 0);
            }
            Edge.found(x, NOTHING, "tear(0)", () -> x.tear(0));
            Edge.found(x, NOTHING, "put(0, 0, 0)", () -> x.put(0, 0, 0));
            Edge.refused(x, BAD, "guard(0, 0)", () -> x.guard(0, 0));
            Edge.refused(x, BAD, "figure(0)", () -> x.figure(0));
            Edge.found(x, NOTHING, "on(0)", () -> x.on(0));
        });
    }

    private static void row() {
        Edge.of(2, "A ROW is there with n ints 0: n.", () -> {
            GuardFigures x = new GuardFigures();
            Due.is("row(0, 0)", x.row(0, 0), 0);
            Due.is("count(6)", x.count(6), 1);
            Edge.found(x, BEYOND, "at(0, 0) of none", () -> x.at(0, 0));
            Due.is("row(5, 40)", x.row(5, 40), 40);
            for (int i = 0; i < 40; i++) {
                Due.told(x, "lay(5, " + i + ", 7)", x.lay(5, i, 7), 1, 0);
            }
            Due.is("row(5, 40) anew", x.row(5, 40), 40);
            for (int i = 0; i < 40; i++) {
                Due.told(x, "at(5, " + i + ")", x.at(5, i), 1, 0);
            }
            Due.is("row(5, 1) anew", x.row(5, 1), 1);
            Edge.found(x, BEYOND, "at(5, 1)", () -> x.at(5, 1));
            Due.is("count(6)", x.count(6), 2);
        });
        Edge.of(2, "BAD: also n above 40", () -> {
            GuardFigures x = new GuardFigures();
            Due.row(x, 0, 7, 8);
            Edge.refused(x, BAD, "row(0, 41)", () -> x.row(0, 41));
            Edge.refused(x, BAD, "row(0, MAX)", () -> x.row(0, MAX));
            Edge.refused(x, BAD, "row(-1, 1)", () -> x.row(-1, 1));
            Edge.refused(x, BAD, "row(6, 1)", () -> x.row(6, 1));
            Edge.refused(x, BAD, "row(MIN, 1)", () -> x.row(MIN, 1));
            Edge.refused(x, BAD, "row(MAX, 1)", () -> x.row(MAX, 1));
            Edge.refused(x, BAD, "row(6, -1), ahead of SIZE", () -> x.row(6, -1));
        });
        Edge.of(2, "SIZE: below 0.", () -> {
            GuardFigures x = new GuardFigures();
            Due.row(x, 0, 7, 8);
            Edge.found(x, SIZE, "row(0, -1)", () -> x.row(0, -1));
            Edge.found(x, SIZE, "row(0, MIN)", () -> x.row(0, MIN));
            Edge.found(x, SIZE, "row(5, -1) of a missing one", () -> x.row(5, -1));
            ints(x, 0, 7, 8);
        });
    }

    private static void lay() {
        Edge.of(3, "Place i of a ROW is v: what it was, told by asked(): 1.", () -> {
            GuardFigures x = new GuardFigures();
            Due.is("row(0, 40)", x.row(0, 40), 40);
            Due.told(x, "lay(0, 0, MIN)", x.lay(0, 0, MIN), 1, 0);
            Due.told(x, "lay(0, 39, MAX)", x.lay(0, 39, MAX), 1, 0);
            Due.told(x, "lay(0, 0, -1)", x.lay(0, 0, -1), 1, MIN);
            Due.told(x, "lay(0, 39, -9)", x.lay(0, 39, -9), 1, MAX);
            Due.told(x, "lay(0, 0, -1) once more", x.lay(0, 0, -1), 1, -1);
            Due.told(x, "at(0, 1) beside it", x.at(0, 1), 1, 0);
            Due.told(x, "at(0, 39)", x.at(0, 39), 1, -9);
        });
        Edge.of(3, "BAD;", () -> {
            GuardFigures x = new GuardFigures();
            x.row(0, 1);
            Edge.refused(x, BAD, "lay(6, 0, 1)", () -> x.lay(6, 0, 1));
            Edge.refused(x, BAD, "lay(-1, 0, 1)", () -> x.lay(-1, 0, 1));
            Edge.refused(x, BAD, "lay(MAX, -1, 1)", () -> x.lay(MAX, -1, 1));
        });
        Edge.of(3, "NOTHING;", () -> {
            GuardFigures x = new GuardFigures();
            x.row(0, 1);
            Edge.found(x, NOTHING, "lay(1, 0, 1)", () -> x.lay(1, 0, 1));
            Edge.found(x, NOTHING, "lay(5, -1, 1), ahead of BEYOND", () -> x.lay(5, -1, 1));
            x.tear(0);
            Edge.found(x, NOTHING, "lay(0, 0, 1) of a torn one", () -> x.lay(0, 0, 1));
        });
        Edge.of(3, "BEYOND.", () -> {
            GuardFigures x = new GuardFigures();
            Due.row(x, 0, 4, 5);
            Edge.found(x, BEYOND, "lay(0, 2, 1)", () -> x.lay(0, 2, 1));
            Edge.found(x, BEYOND, "lay(0, -1, 1)", () -> x.lay(0, -1, 1));
            Edge.found(x, BEYOND, "lay(0, MAX, 1)", () -> x.lay(0, MAX, 1));
            Edge.found(x, BEYOND, "lay(0, MIN, 1)", () -> x.lay(0, MIN, 1));
            x.row(1, 0);
            Edge.found(x, BEYOND, "lay(1, 0, 1) of none", () -> x.lay(1, 0, 1));
            x.row(2, 40);
            Edge.found(x, BEYOND, "lay(2, 40, 1)", () -> x.lay(2, 40, 1));
        });
    }

    private static void at() {
        Edge.of(4, "Place i of a ROW, told by asked(): 1.", () -> {
            GuardFigures x = new GuardFigures();
            x.row(3, 40);
            x.lay(3, 0, MIN);
            x.lay(3, 39, MAX);
            Due.told(x, "at(3, 0)", x.at(3, 0), 1, MIN);
            Due.told(x, "at(3, 39)", x.at(3, 39), 1, MAX);
            Due.told(x, "at(3, 38)", x.at(3, 38), 1, 0);
        });
        Edge.of(4, "BAD;", () -> {
            GuardFigures x = new GuardFigures();
            x.row(5, 1);
            Edge.refused(x, BAD, "at(6, 0)", () -> x.at(6, 0));
            Edge.refused(x, BAD, "at(-1, 0)", () -> x.at(-1, 0));
            Edge.refused(x, BAD, "at(MIN, -1)", () -> x.at(MIN, -1));
        });
        Edge.of(4, "NOTHING;", () -> {
            GuardFigures x = new GuardFigures();
            Edge.found(x, NOTHING, "at(0, 0)", () -> x.at(0, 0));
            Edge.found(x, NOTHING, "at(5, 40), ahead of BEYOND", () -> x.at(5, 40));
        });
        Edge.of(4, "BEYOND.", () -> {
            GuardFigures x = new GuardFigures();
            Due.row(x, 0, 4, 5);
            Edge.found(x, BEYOND, "at(0, 2)", () -> x.at(0, 2));
            Edge.found(x, BEYOND, "at(0, -1)", () -> x.at(0, -1));
            Edge.found(x, BEYOND, "at(0, MAX)", () -> x.at(0, MAX));
            Edge.found(x, BEYOND, "at(0, MIN)", () -> x.at(0, MIN));
            x.row(0, 40);
            Edge.found(x, BEYOND, "at(0, 40)", () -> x.at(0, 40));
            x.row(0, 0);
            Edge.found(x, BEYOND, "at(0, 0) of none", () -> x.at(0, 0));
        });
    }

    private static void tear() {
        Edge.of(5, "A ROW is missing: 1.", () -> {
            GuardFigures x = new GuardFigures();
            x.row(0, 0);
            x.row(5, 40);
            Due.is("tear(0) of none", x.tear(0), 1);
            Due.is("count(6)", x.count(6), 1);
            Due.is("tear(5)", x.tear(5), 1);
            Due.is("count(6)", x.count(6), 0);
            Due.is("digest() as of a new object", x.digest(), new GuardFigures().digest());
        });
        Edge.of(5, "BAD;", () -> {
            GuardFigures x = new GuardFigures();
            x.row(0, 1);
            Edge.refused(x, BAD, "tear(6)", () -> x.tear(6));
            Edge.refused(x, BAD, "tear(-1)", () -> x.tear(-1));
        });
        Edge.of(5, "NOTHING.", () -> {
            GuardFigures x = new GuardFigures();
            Edge.found(x, NOTHING, "tear(5)", () -> x.tear(5));
            x.row(0, 3);
            x.tear(0);
            Edge.found(x, NOTHING, "tear(0) again", () -> x.tear(0));
        });
    }

    private static void copy() {
        Edge.of(6, "n places of a ROW, from one on, come to those of another one (perhaps itself) from one on", () -> {
            GuardFigures x = new GuardFigures();
            Due.row(x, 0, 1, 2, 3, 4);
            Due.row(x, 5, 5, 6, 7);
            Due.is("the last to the first", x.copy(0, 3, 5, 0, 1), 1);
            ints(x, 5, 4, 6, 7);
            Due.is("all there is room for", x.copy(0, 1, 5, 0, 3), 1);
            ints(x, 5, 2, 3, 4);
            Due.is("none at the ends", x.copy(0, 4, 5, 3, 0), 1);
            Due.is("none at all", x.copy(5, 0, 0, 0, 0), 1);
            ints(x, 0, 1, 2, 3, 4);
            ints(x, 5, 2, 3, 4);
            x.row(1, 40);
            x.lay(1, 0, 8);
            x.lay(1, 39, 9);
            x.row(2, 40);
            Due.is("40", x.copy(1, 0, 2, 0, 40), 1);
            Due.told(x, "at(2, 0)", x.at(2, 0), 1, 8);
            Due.told(x, "at(2, 39)", x.at(2, 39), 1, 9);
            x.row(3, 0);
            Due.is("none of none", x.copy(3, 0, 3, 0, 0), 1);
            Due.is("asked() is not told", x.asked(), 9);
        });
        Edge.of(6, "as if taken ahead: 1.", () -> {
            GuardFigures x = new GuardFigures();
            Due.row(x, 0, 1, 2, 3, 4);
            Due.is("to the right", x.copy(0, 0, 0, 1, 3), 1);
            ints(x, 0, 1, 1, 2, 3);
            Due.is("to the left", x.copy(0, 1, 0, 0, 3), 1);
            ints(x, 0, 1, 2, 3, 3);
            Due.is("onto itself", x.copy(0, 0, 0, 0, 4), 1);
            ints(x, 0, 1, 2, 3, 3);
        });
        Edge.of(6, "BAD;", () -> {
            GuardFigures x = new GuardFigures();
            x.row(0, 2);
            Edge.refused(x, BAD, "from 6", () -> x.copy(6, 0, 0, 0, 1));
            Edge.refused(x, BAD, "from -1", () -> x.copy(-1, 0, 0, 0, 1));
            Edge.refused(x, BAD, "to 6", () -> x.copy(0, 0, 6, 0, 1));
            Edge.refused(x, BAD, "to -1, ahead of SIZE", () -> x.copy(0, 0, -1, 0, -1));
        });
        Edge.of(6, "SIZE: n below 0;", () -> {
            GuardFigures x = new GuardFigures();
            x.row(0, 2);
            Edge.found(x, SIZE, "-1", () -> x.copy(0, 1, 0, 1, -1));
            Edge.found(x, SIZE, "MIN", () -> x.copy(0, 0, 0, 0, MIN));
            Edge.found(x, SIZE, "-1, ahead of NOTHING", () -> x.copy(1, 0, 2, 0, -1));
            Edge.found(x, SIZE, "-1, ahead of BEYOND", () -> x.copy(0, 9, 0, -9, -1));
        });
        Edge.of(6, "NOTHING: either;", () -> {
            GuardFigures x = new GuardFigures();
            x.row(0, 2);
            Edge.found(x, NOTHING, "from a missing one", () -> x.copy(1, 0, 0, 0, 0));
            Edge.found(x, NOTHING, "to a missing one", () -> x.copy(0, 0, 1, 0, 0));
            Edge.found(x, NOTHING, "both missing", () -> x.copy(4, 0, 5, 0, 0));
            Edge.found(x, NOTHING, "ahead of BEYOND there", () -> x.copy(1, 0, 0, 3, 1));
            Edge.found(x, NOTHING, "ahead of BEYOND here", () -> x.copy(0, 3, 1, 0, 1));
        });
        Edge.of(6, "BEYOND: not so many there.", () -> {
            GuardFigures x = new GuardFigures();
            Due.row(x, 0, 1, 2, 3);
            Due.row(x, 1, 8, 9);
            Edge.found(x, BEYOND, "too many to", () -> x.copy(0, 0, 1, 0, 3));
            Edge.found(x, BEYOND, "too many from", () -> x.copy(1, 0, 0, 0, 3));
            Edge.found(x, BEYOND, "from too far", () -> x.copy(0, 3, 1, 0, 1));
            Edge.found(x, BEYOND, "to too far", () -> x.copy(0, 0, 1, 2, 1));
            Edge.found(x, BEYOND, "from -1", () -> x.copy(0, -1, 1, 0, 1));
            Edge.found(x, BEYOND, "to -1", () -> x.copy(0, 0, 1, -1, 1));
            Edge.found(x, BEYOND, "none from behind the end", () -> x.copy(0, 4, 1, 0, 0));
            Edge.found(x, BEYOND, "none to behind the end", () -> x.copy(0, 0, 1, 3, 0));
            Edge.found(x, BEYOND, "none from -1", () -> x.copy(0, -1, 1, 0, 0));
            Edge.found(x, BEYOND, "sums that run over", () -> x.copy(0, 1, 1, 1, MAX));
            Edge.found(x, BEYOND, "places that run over", () -> x.copy(0, MAX, 1, MAX, 1));
            ints(x, 0, 1, 2, 3);
            ints(x, 1, 8, 9);
        });
    }

    private static void mean() {
        Edge.of(7, "The mean of a ROW's ints, cut, told by asked(): 1.", () -> {
            GuardFigures x = new GuardFigures();
            Due.row(x, 0, 2, 3);
            Due.told(x, "2 and a half", x.mean(0), 1, 2);
            Due.row(x, 0, -2, -3);
            Due.told(x, "2 and a half below 0", x.mean(0), 1, -2);
            Due.row(x, 0, -1, 0, 0);
            Due.told(x, "a third below 0", x.mean(0), 1, 0);
            Due.row(x, 0, -7);
            Due.told(x, "one alone", x.mean(0), 1, -7);
            x.row(0, 40);
            for (int i = 0; i < 40; i++) {
                x.lay(0, i, MAX);
            }
            Due.told(x, "40 of the greatest", x.mean(0), 1, MAX);
            for (int i = 0; i < 40; i++) {
                x.lay(0, i, MIN);
            }
            Due.told(x, "40 of the least", x.mean(0), 1, MIN);
        });
        Edge.of(7, "BAD;", () -> {
            GuardFigures x = new GuardFigures();
            x.row(0, 1);
            Edge.refused(x, BAD, "mean(6)", () -> x.mean(6));
            Edge.refused(x, BAD, "mean(-1)", () -> x.mean(-1));
        });
        Edge.of(7, "NOTHING;", () -> {
            GuardFigures x = new GuardFigures();
            Edge.found(x, NOTHING, "mean(0)", () -> x.mean(0));
            Edge.found(x, NOTHING, "mean(5)", () -> x.mean(5));
        });
        Edge.of(7, "NOUGHT.", () -> {
            GuardFigures x = new GuardFigures();
            Due.row(x, 0, 5);
            x.at(0, 0);
            x.row(0, 0);
            Edge.found(x, NOUGHT, "mean(0) of none", () -> x.mean(0));
        });
    }

    public static void main(String[] args) throws IOException {
        newObject();
        row();
        lay();
        at();
        tear();
        copy();
        mean();
        Edge.end(1, 7);
    }
}
