import java.util.Random;

/** Long runs of calls by lots, every answer compared with the plain model's; and no call ever throws. */
public final class ModelTest {
    /** No answer is promised behind call 512; what one round makes of calls at most is left as room ahead of it. */
    private static final int RUNS = 1000, CALLS = 512, ROOM = 130;
    private static final int[] EDGES = {Integer.MIN_VALUE, Integer.MIN_VALUE + 1, -129, -2, -1, 0, 1, 2, 3, 7, 8, 9, 10,
        11, 12, 13, 20, 21, 40, 41, 60, 61, 127, 128, 255, 256, Integer.MAX_VALUE - 1, Integer.MAX_VALUE};

    private final Random random;
    private final GuardFigures x = new GuardFigures();
    private final Model m = new Model();
    private int calls = 0;

    private ModelTest(long seed) {
        random = new Random(seed);
    }

    /** Mostly from .. to, now and then one beside it, or one far off. */
    private int pick(int from, int to) {
        int lot = random.nextInt(60);
        if (lot == 0) return EDGES[random.nextInt(EDGES.length)];
        if (lot == 1) return random.nextBoolean() ? from - 1 : to + 1;
        return from + random.nextInt(to - from + 1);
    }

    private int anyInt() {
        return random.nextInt(8) == 0 ? EDGES[random.nextInt(EDGES.length)] : random.nextInt();
    }

    private int guard() {
        return pick(0, Math.max(0, m.count(0) - 1));
    }

    private int place() {
        return pick(0, Math.max(0, m.count(1) - 1));
    }

    private void newText() {
        int t = random.nextInt(4);
        StringBuilder signs = new StringBuilder();
        int many = 1 + random.nextInt(8);
        for (int g = 0; g < many; g++) {
            signs.append(" ".repeat(random.nextInt(3) == 0 ? random.nextInt(3) : 0));
            signs.append("gechbd".charAt(random.nextInt(6)));
            signs.append(random.nextInt(10)).append(random.nextInt(10));
        }
        if (random.nextInt(4) == 0) signs.setCharAt(random.nextInt(signs.length()), (char) random.nextInt(256));
        if (random.nextInt(6) == 0) signs.setLength(random.nextInt(signs.length()));
        compare("text", x.text(t, signs.length()), m.text(t, signs.length()));
        for (int i = 0; i < signs.length(); i++) {
            int sign = signs.charAt(i) + 256 * random.nextInt(2);
            compare("put", x.put(t, i, sign), m.put(t, i, sign));
        }
        compare("fault", x.fault(t), m.fault(t));
        compare("house", x.house(t), m.house(t));
    }

    private void newRow() {
        int r = random.nextInt(6), n = random.nextInt(11), smeared = random.nextInt(5);
        compare("row", x.row(r, n), m.row(r, n));
        for (int i = 0; i < n; i++) {
            int v = i < smeared && random.nextBoolean() ? -1 : random.nextInt(random.nextInt(12) == 0 ? 12 : 10);
            int where = (i * 7 + 3) % n;
            compare("lay", x.lay(r, where, v), m.lay(r, where, v));
        }
    }

    /** What else is told is looked at now and then only: those are calls, too. */
    private void compare(String call, long got, long want) {
        Due.is(call, got, want);
        calls++;
        int lot = random.nextInt(8);
        if (lot < 6) calls++;
        if (lot < 3) Due.is("asked() behind " + call, x.asked(), m.asked());
        else if (lot == 3) Due.is("upper() behind " + call, x.upper(), m.upper());
        else if (lot == 4) Due.is("lower() behind " + call, x.lower(), m.lower());
        else if (lot == 5) Due.is("finding() behind " + call, x.finding(), m.finding());
    }

    private void rowCall(int which) {
        int r = pick(0, 5), i = pick(0, 9), v = anyInt(), to = pick(0, 5), j = pick(0, 9), n = pick(0, 10), t = pick(0, 3);
        switch (which) {
            case 0: n = pick(0, 40); compare("row", x.row(r, n), m.row(r, n)); break;
            case 1: compare("lay", x.lay(r, i, v), m.lay(r, i, v)); break;
            case 2: compare("at", x.at(r, i), m.at(r, i)); break;
            case 3: compare("tear", x.tear(r), m.tear(r)); break;
            case 4: case 5: compare("copy", x.copy(r, i, to, j, n), m.copy(r, i, to, j, n)); break;
            case 6: compare("mean", x.mean(r), m.mean(r)); break;
            case 7: n = pick(0, 60); compare("text", x.text(t, n), m.text(t, n)); break;
            case 8: compare("put", x.put(t, i, v), m.put(t, i, v)); break;
            case 9: compare("fault", x.fault(t), m.fault(t)); break;
            case 10: if (random.nextInt(4) == 0) compare("house", x.house(t), m.house(t)); break;
            default: if (random.nextBoolean()) newRow(); else if (random.nextInt(4) == 0) newText();
        }
    }

    private void deedCall(int which) {
        int f = pick(0, 9), k = place();
        switch (which) {
            case 0: case 1: case 2: compare("add", x.add(f), m.add(f)); break;
            case 3: compare("drop", x.drop(), m.drop()); break;
            case 4: compare("change", x.change(k, f), m.change(k, f)); break;
            case 5: compare("swap", x.swap(k), m.swap(k)); break;
            case 6: k = pick(0, m.count(2)); compare("undo", x.undo(k), m.undo(k)); break;
            case 7: k = pick(0, 2); compare("keep", x.keep(k), m.keep(k)); break;
            case 8: k = pick(0, 2); compare("on", x.on(k), m.on(k)); break;
            case 9: compare("figure", x.figure(k), m.figure(k)); break;
            default:
                int n = pick(1, 20), seed = anyInt() & (random.nextInt(9) == 0 ? -1 : Integer.MAX_VALUE);
                compare("lots", x.lots(n, seed), m.lots(n, seed));
        }
    }

    private void askCall(int which) {
        int i = guard(), c = pick(0, 10), r = pick(0, 5), p = pick(0, 12), kind = pick(1, 5), n = pick(0, 3);
        switch (which) {
            case 0: n = pick(0, 4); compare("guard", x.guard(i, n), m.guard(i, n)); break;
            case 1: compare("mark", x.mark(i, kind), m.mark(i, kind)); break;
            case 2: compare("slips", x.slips(i), m.slips(i)); break;
            case 3: compare("swaps", x.swaps(i), m.swaps(i)); break;
            case 4: compare("jumps", x.jumps(i), m.jumps(i)); break;
            case 5: compare("best", x.best(), m.best()); break;
            case 6: compare("cover", x.cover(), m.cover()); break;
            case 7: compare("next", x.next(i, c), m.next(i, c)); break;
            case 8: compare("near", x.near(i, c), m.near(i, c)); break;
            case 9: compare("fills", x.fills(i, c, r), m.fills(i, c, r)); break;
            case 10: compare("kinds", x.kinds(i, r), m.kinds(i, r)); break;
            case 11: compare("firsts", x.firsts(i, r), m.firsts(i, r)); break;
            case 12: compare("test", x.test(i, r), m.test(i, r)); break;
            case 13: n = random.nextInt(5) == 0 ? 4 : n; compare("duel", x.duel(i, n), m.duel(i, n)); break;
            case 14: compare("odds", x.odds(i, p), m.odds(i, p)); break;
            case 15: compare("mid", x.mid(i, p), m.mid(i, p)); break;
            case 16: n = pick(0, 10); compare("count", x.count(n), m.count(n)); break;
            case 17: n = pick(1, 5); compare("findings", x.findings(n), m.findings(n)); break;
            default: compare("digest", x.digest(), m.digest());
        }
    }

    private void run() {
        if (random.nextInt(10) != 0) newText();
        while (calls < CALLS - ROOM) {
            int lot = random.nextInt(10);
            if (lot < 3) rowCall(random.nextInt(14));
            else if (lot < 6) deedCall(random.nextInt(11));
            else askCall(random.nextInt(19));
        }
        compare("digest", x.digest(), m.digest());
        Due.is("at most 512 calls", calls <= CALLS ? 1 : 0, 1);
    }

    public static void main(String[] args) {
        for (int seed = 1; seed <= RUNS; seed++) {
            new ModelTest(seed).run();
        }
        Due.end();
    }
}
