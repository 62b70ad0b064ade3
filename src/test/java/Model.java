import java.math.BigInteger;
import java.util.ArrayList;
import java.util.List;

/**
 * The document once more, as slowly and plainly as it can be said: every copy, every filling and every turn is
 * written out and reckoned anew. ModelTest compares the class with it.
 */
final class Model {
    private static final int BAD = -1, FULL = -2, FINDING = -3, STATE = -4, NONE = -9;
    private static final String LETTERS = "gechbd";

    private record Guard(int kind, int first, int step) {
    }

    private record State(List<Integer> figures, List<List<Integer>> before) {
    }

    private final int[][] rows = new int[6][];
    private final byte[][] texts = new byte[4][];
    private List<Guard> guards = new ArrayList<>();
    private List<Integer> figures = new ArrayList<>();
    private List<List<Integer>> before = new ArrayList<>();
    private final State[] kept = new State[3];
    private int told = 0;
    private long up = 0;
    private long low = 1;
    private int latest = 0;
    private final int[] found = new int[6];

    private int find(int f) {
        latest = f;
        found[f]++;
        return FINDING;
    }

    private int tell(int v) {
        told = v;
        return 1;
    }

    private boolean noGuard(int i) {
        return i < 0 || i >= guards.size();
    }

    private boolean noRow(int r) {
        return r < 0 || r > 5;
    }

    private static boolean noFigure(int f) {
        return f < 0 || f > 9;
    }

    int row(int r, int n) {
        if (noRow(r) || n > 40) return BAD;
        if (n < 0) return find(5);
        rows[r] = new int[n];
        return n;
    }

    int lay(int r, int i, int v) {
        if (noRow(r)) return BAD;
        if (rows[r] == null) return find(1);
        if (i < 0 || i >= rows[r].length) return find(2);
        tell(rows[r][i]);
        rows[r][i] = v;
        return 1;
    }

    int at(int r, int i) {
        if (noRow(r)) return BAD;
        if (rows[r] == null) return find(1);
        if (i < 0 || i >= rows[r].length) return find(2);
        return tell(rows[r][i]);
    }

    int tear(int r) {
        if (noRow(r)) return BAD;
        if (rows[r] == null) return find(1);
        rows[r] = null;
        return 1;
    }

    int copy(int r, int i, int to, int j, int n) {
        if (noRow(r) || noRow(to)) return BAD;
        if (n < 0) return find(5);
        if (rows[r] == null || rows[to] == null) return find(1);
        if (i < 0 || j < 0 || (long) i + n > rows[r].length || (long) j + n > rows[to].length) return find(2);
        int[] ahead = rows[r].clone();
        for (int k = 0; k < n; k++) rows[to][j + k] = ahead[i + k];
        return 1;
    }

    int mean(int r) {
        if (noRow(r)) return BAD;
        if (rows[r] == null) return find(1);
        if (rows[r].length == 0) return find(4);
        BigInteger sum = BigInteger.ZERO;
        for (int v : rows[r]) sum = sum.add(BigInteger.valueOf(v));
        return tell(sum.divide(BigInteger.valueOf(rows[r].length)).intValueExact());
    }

    int text(int t, int n) {
        if (t < 0 || t > 3 || n > 60) return BAD;
        if (n < 0) return find(5);
        texts[t] = new byte[n];
        java.util.Arrays.fill(texts[t], (byte) 32);
        return n;
    }

    int put(int t, int i, int v) {
        if (t < 0 || t > 3) return BAD;
        if (texts[t] == null) return find(1);
        if (i < 0 || i >= texts[t].length) return find(2);
        int was = texts[t][i];
        texts[t][i] = (byte) v;
        return was + 1000;
    }

    /** A machine of states, sign by sign: 0 between items, 1 behind a letter, 2 behind the first figure. */
    private int parse(byte[] text, List<Guard> into) {
        int state = 0, kind = 0, first = 0;
        for (int i = 0; i < text.length; i++) {
            int sign = text[i];
            if (state == 0) {
                if (sign == 32) continue;
                kind = sign < 0 ? -1 : LETTERS.indexOf(sign);
                if (kind < 0 || into.size() == 7) return i;
                state = 1;
            } else {
                if (sign < '0' || sign > '9') return i;
                if (state == 1) {
                    first = sign - '0';
                    state = 2;
                } else {
                    into.add(new Guard(kind, first, sign - '0'));
                    state = 0;
                }
            }
        }
        return state != 0 || into.size() < 2 ? text.length : NONE;
    }

    int fault(int t) {
        if (t < 0 || t > 3) return BAD;
        if (texts[t] == null) return find(1);
        return parse(texts[t], new ArrayList<>());
    }

    int house(int t) {
        if (t < 0 || t > 3) return BAD;
        if (texts[t] == null) return find(1);
        List<Guard> into = new ArrayList<>();
        if (parse(texts[t], into) != NONE) return STATE;
        guards = into;
        figures = new ArrayList<>();
        before = new ArrayList<>();
        java.util.Arrays.fill(kept, null);
        return guards.size();
    }

    private static int reckon(int kind, int first, int step, List<Integer> over) {
        int n = over.size();
        int sum = 0;
        switch (kind) {
            case 3:
                for (int f : over) sum = (sum * first + f + step) % 10;
                return sum;
            case 4:
                for (int k = 0; k < n; k++) sum += over.get(n - 1 - k) * ((first + k * step) % 10);
                return sum % 11;
            case 5:
                return (2 * reckon(2, first, step, over) + n) % 10;
            default:
                for (int k = 0; k < n; k++) {
                    int product = over.get(k) * ((first + k * step) % 10);
                    if (kind != 2) sum += product;
                    else for (char c : Integer.toString(product).toCharArray()) sum += c - '0';
                }
                return sum % (kind == 1 ? 11 : 10);
        }
    }

    private int reckon(int i, List<Integer> over) {
        Guard g = guards.get(i);
        return reckon(g.kind, g.first, g.step, over);
    }

    /** Copies with their marks, as {mark, figures...}; sort 0 SLIPS, 1 SWAPS, 2 JUMPS. */
    private List<List<Integer>> things(int sort, List<Integer> marks) {
        List<List<Integer>> all = new ArrayList<>();
        for (int k = 0; k + sort < figures.size(); k++) {
            if (sort == 0) {
                for (int f = 0; f <= 9; f++) {
                    List<Integer> copy = new ArrayList<>(figures);
                    copy.set(k, f);
                    if (!copy.equals(figures)) {
                        all.add(copy);
                        marks.add(10 * k + f);
                    }
                }
            } else {
                List<Integer> copy = new ArrayList<>(figures);
                copy.set(k, figures.get(k + sort));
                copy.set(k + sort, figures.get(k));
                if (!copy.equals(figures)) {
                    all.add(copy);
                    marks.add(k);
                }
            }
        }
        return all;
    }

    private List<Integer> unseen(int i, int sort) {
        List<Integer> marks = new ArrayList<>();
        List<Integer> missed = new ArrayList<>();
        List<List<Integer>> all = things(sort, marks);
        for (int t = 0; t < all.size(); t++) {
            if (reckon(i, all.get(t)) == reckon(i, figures)) missed.add(marks.get(t));
        }
        return missed;
    }

    private int ofGuard(int i, int what) {
        Guard g = guards.get(i);
        return switch (what) {
            case 0 -> g.kind;
            case 1 -> g.first;
            case 2 -> g.step;
            case 3 -> reckon(i, figures);
            default -> unseen(i, 0).size();
        };
    }

    int guard(int i, int what) {
        if (noGuard(i) || what < 0 || what > 4) return BAD;
        return tell(ofGuard(i, what));
    }

    int mark(int i, int kind) {
        if (noGuard(i) || kind < 1 || kind > 5) return BAD;
        Guard g = guards.get(i);
        boolean is = g.kind == kind || kind == 1 && g.kind == 4 || kind == 2 && g.kind == 5;
        if (!is) return find(3);
        int as = kind == 4 ? 1 : kind == 5 ? 2 : 0;
        return Math.abs(reckon(i, figures) - reckon(as, g.first, g.step, figures));
    }

    int figure(int k) {
        return k < 0 || k >= figures.size() ? BAD : figures.get(k);
    }

    private void deed() {
        before.add(new ArrayList<>(figures));
    }

    int add(int f) {
        if (noFigure(f)) return BAD;
        if (guards.isEmpty() || figures.size() == 8) return STATE;
        if (before.size() == 40) return FULL;
        deed();
        figures.add(f);
        return figures.size();
    }

    int drop() {
        if (figures.isEmpty()) return STATE;
        if (before.size() == 40) return FULL;
        deed();
        return figures.remove(figures.size() - 1);
    }

    int change(int k, int f) {
        if (k < 0 || k >= figures.size() || noFigure(f)) return BAD;
        if (figures.get(k) == f) return STATE;
        if (before.size() == 40) return FULL;
        deed();
        return figures.set(k, f);
    }

    int swap(int k) {
        if (k < 0 || k > figures.size() - 2) return BAD;
        if (before.size() == 40) return FULL;
        deed();
        java.util.Collections.swap(figures, k, k + 1);
        return figures.get(k);
    }

    int undo(int n) {
        if (n < 0 || n > before.size()) return BAD;
        int undone = 0;
        while (before.size() > n) {
            figures = new ArrayList<>(before.remove(before.size() - 1));
            undone++;
        }
        return undone;
    }

    int keep(int k) {
        if (k < 0 || k > 2) return BAD;
        if (guards.isEmpty()) return STATE;
        kept[k] = new State(new ArrayList<>(figures), new ArrayList<>(before));
        return before.size();
    }

    int on(int k) {
        if (k < 0 || k > 2) return BAD;
        if (kept[k] == null) return find(1);
        figures = new ArrayList<>(kept[k].figures);
        before = new ArrayList<>();
        for (List<Integer> old : kept[k].before) before.add(new ArrayList<>(old));
        return before.size();
    }

    private int missed(int i, int sort) {
        if (noGuard(i)) return BAD;
        List<Integer> missed = unseen(i, sort);
        if (missed.isEmpty()) return NONE;
        told = missed.get(0);
        return missed.size();
    }

    int slips(int i) {
        return missed(i, 0);
    }

    int swaps(int i) {
        return missed(i, 1);
    }

    int jumps(int i) {
        return missed(i, 2);
    }

    int best() {
        if (guards.isEmpty()) return STATE;
        int best = -1, fewest = Integer.MAX_VALUE;
        for (int i = guards.size() - 1; i >= 0; i--) {
            int missed = unseen(i, 0).size() + unseen(i, 1).size() + unseen(i, 2).size();
            if (missed <= fewest) {
                fewest = missed;
                best = i;
            }
        }
        told = fewest;
        return best;
    }

    int cover() {
        if (guards.isEmpty()) return STATE;
        List<List<Integer>> all = new ArrayList<>();
        for (int sort = 0; sort < 3; sort++) all.addAll(things(sort, new ArrayList<>()));
        for (int many = 0; many <= guards.size(); many++) {
            for (int set = 0; set < 1 << guards.size(); set++) {
                if (Integer.bitCount(set) == many && covers(set, all)) {
                    told = all.size();
                    return set;
                }
            }
        }
        return NONE;
    }

    private boolean covers(int set, List<List<Integer>> all) {
        for (List<Integer> copy : all) {
            boolean seen = false;
            for (int i = 0; i < guards.size(); i++) {
                if ((set & 1 << i) != 0 && reckon(i, copy) != reckon(i, figures)) seen = true;
            }
            if (!seen) return false;
        }
        return true;
    }

    private List<Integer> with(int f) {
        List<Integer> longer = new ArrayList<>(figures);
        longer.add(f);
        return longer;
    }

    int next(int i, int c) {
        if (noGuard(i) || c < 0 || c > 10) return BAD;
        if (figures.size() == 8) return STATE;
        int bits = 0;
        for (int f = 0; f <= 9; f++) if (reckon(i, with(f)) == c) bits |= 1 << f;
        return bits;
    }

    private static int value(List<Integer> over) {
        int v = 0;
        for (int f : over) v = 10 * v + f;
        return v;
    }

    private int leastWith(int i, int c, int others, int from, List<Integer> copy) {
        if (others == 0) return reckon(i, copy) == c ? value(copy) : Integer.MAX_VALUE;
        int least = Integer.MAX_VALUE;
        for (int k = from; k < copy.size(); k++) {
            int was = copy.get(k);
            for (int f = 0; f <= 9; f++) {
                if (f == was) continue;
                copy.set(k, f);
                least = Math.min(least, leastWith(i, c, others - 1, k + 1, copy));
            }
            copy.set(k, was);
        }
        return least;
    }

    int near(int i, int c) {
        if (noGuard(i) || c < 0 || c > 10) return BAD;
        for (int others = 0; others <= 2; others++) {
            int least = leastWith(i, c, others, 0, new ArrayList<>(figures));
            if (least != Integer.MAX_VALUE) {
                told = least;
                return others;
            }
        }
        return NONE;
    }

    int fills(int i, int c, int r) {
        if (noGuard(i) || c < 0 || c > 10 || noRow(r)) return BAD;
        if (rows[r] == null) return find(1);
        if (rows[r].length < 1 || rows[r].length > 8) return find(5);
        int smeared = 0;
        for (int v : rows[r]) {
            if (v < -1 || v > 9) return find(3);
            if (v == -1) smeared++;
        }
        if (smeared > 3) return find(3);
        int all = smeared == 0 ? 1 : smeared == 1 ? 10 : smeared == 2 ? 100 : 1000;
        int ways = 0;
        for (int filling = all - 1; filling >= 0; filling--) {
            List<Integer> full = new ArrayList<>();
            int unit = all;
            for (int v : rows[r]) {
                if (v == -1) unit /= 10;
                full.add(v == -1 ? filling / unit % 10 : v);
            }
            if (reckon(i, full) == c) {
                ways++;
                told = value(full);
            }
        }
        return ways == 0 ? NONE : ways;
    }

    private int refusedExample(int r) {
        if (rows[r] == null) return find(1);
        int n = rows[r].length;
        if (n < 2 || n > 9) return find(5);
        for (int k = 0; k < n; k++) {
            if (rows[r][k] < 0 || rows[r][k] > (k == n - 1 ? 10 : 9)) return find(3);
        }
        return 0;
    }

    private boolean fits(int kind, int first, int step, int r) {
        List<Integer> over = new ArrayList<>();
        for (int k = 0; k < rows[r].length - 1; k++) over.add(rows[r][k]);
        return reckon(kind, first, step, over) == rows[r][rows[r].length - 1];
    }

    private int kindsBy(int i, int r) {
        int bits = 0;
        for (int kind = 0; kind < 6; kind++) {
            if (fits(kind, guards.get(i).first, guards.get(i).step, r)) bits |= 1 << kind;
        }
        return bits;
    }

    int kinds(int i, int r) {
        if (noGuard(i) || noRow(r)) return BAD;
        int refused = refusedExample(r);
        return refused != 0 ? refused : kindsBy(i, r);
    }

    int firsts(int i, int r) {
        if (noGuard(i) || noRow(r)) return BAD;
        int refused = refusedExample(r);
        if (refused != 0) return refused;
        int bits = 0;
        for (int first = 0; first <= 9; first++) {
            if (fits(guards.get(i).kind, first, guards.get(i).step, r)) bits |= 1 << first;
        }
        return bits;
    }

    int test(int i, int r) {
        if (noGuard(i) || noRow(r)) return BAD;
        if (figures.size() == 8) return STATE;
        int refused = refusedExample(r);
        if (refused != 0) return refused;
        int bits = kindsBy(i, r);
        if (bits == 0) return NONE;
        int best = -1, least = 7;
        for (int f = 0; f <= 9; f++) {
            int greatest = 0;
            for (int c = 0; c <= 10; c++) {
                int part = 0;
                for (int kind = 0; kind < 6; kind++) {
                    int own = reckon(kind, guards.get(i).first, guards.get(i).step, with(f));
                    if ((bits & 1 << kind) != 0 && own == c) part++;
                }
                greatest = Math.max(greatest, part);
            }
            if (greatest < least) {
                least = greatest;
                best = f;
            }
        }
        told = least;
        return best;
    }

    private int play(int i, int turns, boolean much, List<Integer> over) {
        if (turns == 0 || over.size() == 8) return reckon(i, over);
        int best = much ? -1 : 11;
        for (int f = 0; f <= 9; f++) {
            over.add(f);
            int end = play(i, turns - 1, !much, over);
            over.remove(over.size() - 1);
            best = much ? Math.max(best, end) : Math.min(best, end);
        }
        return best;
    }

    int duel(int i, int n) {
        if (noGuard(i) || n < 0 || n > 4) return BAD;
        return play(i, n, true, new ArrayList<>(figures));
    }

    private int share(int i, int p, boolean mean) {
        int n = figures.size();
        BigInteger sum = BigInteger.ZERO;
        for (int set = 0; set < 1 << n; set++) {
            List<Integer> copy = new ArrayList<>();
            BigInteger weight = BigInteger.ONE;
            for (int k = 0; k < n; k++) {
                boolean slips = (set & 1 << k) != 0;
                copy.add(slips ? (figures.get(k) + 1) % 10 : figures.get(k));
                weight = weight.multiply(BigInteger.valueOf(slips ? p : 12 - p));
            }
            int own = reckon(i, copy);
            boolean unseen = !copy.equals(figures) && own == reckon(i, figures);
            sum = sum.add(weight.multiply(BigInteger.valueOf(mean ? own : unseen ? 1 : 0)));
        }
        BigInteger all = BigInteger.valueOf(12).pow(n);
        BigInteger common = all.gcd(sum);
        up = sum.divide(common).longValueExact();
        low = all.divide(common).longValueExact();
        return 1;
    }

    int odds(int i, int p) {
        return noGuard(i) || p < 0 || p > 12 ? BAD : share(i, p, false);
    }

    int mid(int i, int p) {
        return noGuard(i) || p < 0 || p > 12 ? BAD : share(i, p, true);
    }

    int lots(int n, int seed) {
        if (n < 1 || n > 20 || seed < 1 || seed == Integer.MAX_VALUE) return BAD;
        if (guards.isEmpty()) return STATE;
        if (before.size() + n > 40) return FULL;
        BigInteger it = BigInteger.valueOf(seed);
        for (int d = 0; d < n; d++) {
            it = it.multiply(BigInteger.valueOf(48271)).mod(BigInteger.valueOf(2147483647));
            int lot = it.intValueExact();
            int f = lot / 8 % 10, place = lot / 128 % 8;
            deed();
            if (lot % 4 < 2 && figures.size() < 8) figures.add(f);
            if (lot % 4 == 2 && !figures.isEmpty()) figures.remove(figures.size() - 1);
            if (lot % 4 == 3 && place < figures.size()) figures.set(place, f);
        }
        return figures.size();
    }

    int asked() {
        return told;
    }

    long upper() {
        return up;
    }

    long lower() {
        return low;
    }

    int count(int what) {
        int n = 0;
        switch (what) {
            case 0: return guards.size();
            case 1: return figures.size();
            case 2: return before.size();
            case 3: return value(figures);
            case 4:
                for (int i = 0; i < guards.size(); i++) n += reckon(i, figures);
                return n;
            case 5:
                for (int i = 0; i < guards.size(); i++) if (unseen(i, 0).isEmpty()) n |= 1 << i;
                return n;
            case 6:
                for (int[] row : rows) if (row != null) n++;
                return n;
            case 7:
                for (byte[] text : texts) if (text != null) n++;
                return n;
            case 8:
                for (State state : kept) if (state != null) n++;
                return n;
            case 9:
                for (Guard g : guards) if (g.kind == 1 || g.kind == 4) n++;
                return n;
            case 10:
                for (Guard g : guards) if (g.kind == 2 || g.kind == 5) n++;
                return n;
            default: return BAD;
        }
    }

    int finding() {
        return latest;
    }

    int findings(int f) {
        return f < 1 || f > 5 ? BAD : found[f];
    }

    long digest() {
        List<Integer> all = new ArrayList<>();
        for (int what = 0; what <= 10; what++) all.add(count(what));
        for (int i = 0; i < guards.size(); i++) for (int what = 0; what <= 4; what++) all.add(ofGuard(i, what));
        for (State state : kept) all.add(state == null ? -1 : state.before.size());
        for (int[] row : rows) {
            all.add(row == null ? -1 : row.length);
            if (row != null) for (int v : row) all.add(v);
        }
        for (byte[] text : texts) {
            all.add(text == null ? -1 : text.length);
            if (text != null) for (byte v : text) all.add((int) v);
        }
        long h = 17;
        for (int v : all) h = 31 * h + v;
        return h;
    }
}
