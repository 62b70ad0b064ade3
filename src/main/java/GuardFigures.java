/**
 * A number written figure by figure, and guards who reckon checks over it.
 * What each call promises stands in ../shared/DOC.md.
 */
public final class GuardFigures {
    public static final int BAD = -1, FULL = -2, FINDING = -3, STATE = -4, SPENT = -6, NONE = -9;

    private static final int NOTHING = 1, BEYOND = 2, UNLIKE = 3, NOUGHT = 4, SIZE = 5;
    private static final int ROWS = 6, ROW_MOST = 40, TEXTS = 4, TEXT_MOST = 60, KEPT = 3;
    private static final int GUARDS_LEAST = 2, GUARDS_MOST = 7, FIGURES_MOST = 8, DEEDS_MOST = 40;
    private static final int BLANK = 32, FIGURE_0 = 48, TEN = 10, CHECK_MOST = 10;
    private static final int SMEARED = -1, SMEARED_MOST = 3, TURNS_MOST = 4;
    private static final int PARTS = 12, LOTS_MOST = 20, LOTS_TIMES = 48271, LOTS_MODULUS = 2147483647;
    private static final int KINDS = 6, GUARD = 0, ELEVEN = 1, CROSS = 2, CHAIN = 3, BACK = 4, DOUBLE = 5;
    private static final int SLIPS = 0, SWAPS = 1, JUMPS = 2;
    private static final int GUARD_TELLS = 5, COUNTS = 11;

    /** The letter of each KIND. */
    private static final int[] LETTERS = {103, 101, 99, 104, 98, 100};
    /** Of which KIND each KIND is one, too. */
    private static final int[] ABOVE = {-1, 0, 0, 0, 1, 2};

    private final Row[] rows;
    private final Row[] texts;
    private final Guard[] guards;
    private int guardCount;
    private final Writing number;
    private final Writing[] kept;
    private final Reader reader;
    private final Watch watch;
    private final Outlook outlook;
    private final Guard alike;
    private final int[] scratch;
    private final int[] parts;
    private int told;
    private long upperTold;
    private long lowerTold;
    private int latest;
    private final int[] answered;

    public GuardFigures() {
        rows = new Row[ROWS];
        for (int r = 0; r < ROWS; r++) {
            rows[r] = new Row(ROW_MOST);
        }
        texts = new Row[TEXTS];
        for (int t = 0; t < TEXTS; t++) {
            texts[t] = new Row(TEXT_MOST);
        }
        guards = new Guard[GUARDS_MOST];
        for (int i = 0; i < GUARDS_MOST; i++) {
            guards[i] = new Guard();
        }
        kept = new Writing[KEPT];
        for (int k = 0; k < KEPT; k++) {
            kept[k] = new Writing();
        }
        number = new Writing();
        reader = new Reader();
        watch = new Watch();
        outlook = new Outlook();
        alike = new Guard();
        scratch = new int[FIGURES_MOST];
        parts = new int[CHECK_MOST + 1];
        lowerTold = 1;
        answered = new int[SIZE + 1];
    }

    // ---- 1 rows, texts, houses

    public int row(int r, int n) {
        if (!isWithin(r, ROWS) || n > ROW_MOST) {
            return BAD;
        }
        return renew(rows[r], n, 0);
    }

    public int lay(int r, int i, int v) {
        int refused = refusedPlace(r, i);
        if (refused != 0) {
            return refused;
        }
        return tell(rows[r].replace(i, v));
    }

    public int at(int r, int i) {
        int refused = refusedPlace(r, i);
        if (refused != 0) {
            return refused;
        }
        return tell(rows[r].places[i]);
    }

    public int tear(int r) {
        if (!isWithin(r, ROWS)) {
            return BAD;
        }
        if (!rows[r].isThere()) {
            return found(NOTHING);
        }
        rows[r].size = Row.MISSING;
        return 1;
    }

    public int copy(int r, int i, int to, int j, int n) {
        if (!isWithin(r, ROWS) || !isWithin(to, ROWS)) {
            return BAD;
        }
        if (n < 0) {
            return found(SIZE);
        }
        if (!rows[r].isThere() || !rows[to].isThere()) {
            return found(NOTHING);
        }
        if (!rows[r].hasPlaces(i, n) || !rows[to].hasPlaces(j, n)) {
            return found(BEYOND);
        }
        System.arraycopy(rows[r].places, i, rows[to].places, j, n);
        return 1;
    }

    public int mean(int r) {
        if (!isWithin(r, ROWS)) {
            return BAD;
        }
        Row row = rows[r];
        if (!row.isThere()) {
            return found(NOTHING);
        }
        if (row.size == 0) {
            return found(NOUGHT);
        }
        return tell((int) (row.sum() / row.size));
    }

    public int text(int t, int n) {
        if (!isWithin(t, TEXTS) || n > TEXT_MOST) {
            return BAD;
        }
        return renew(texts[t], n, BLANK);
    }

    public int put(int t, int i, int v) {
        if (!isWithin(t, TEXTS)) {
            return BAD;
        }
        if (!texts[t].isThere()) {
            return found(NOTHING);
        }
        if (!texts[t].hasPlaces(i, 1)) {
            return found(BEYOND);
        }
        return texts[t].replace(i, (byte) v) + 1000;
    }

    public int fault(int t) {
        if (!isWithin(t, TEXTS)) {
            return BAD;
        }
        if (!texts[t].isThere()) {
            return found(NOTHING);
        }
        return reader.read(texts[t]);
    }

    public int house(int t) {
        if (!isWithin(t, TEXTS)) {
            return BAD;
        }
        if (!texts[t].isThere()) {
            return found(NOTHING);
        }
        if (reader.read(texts[t]) != NONE) {
            return STATE;
        }
        guardCount = reader.guardCount;
        for (int i = 0; i < guardCount; i++) {
            guards[i].resemble(reader.guards[i]);
        }
        number.clear();
        for (int k = 0; k < KEPT; k++) {
            kept[k].isThere = false;
        }
        return guardCount;
    }

    public int guard(int i, int what) {
        if (!isGuard(i) || !isWithin(what, GUARD_TELLS)) {
            return BAD;
        }
        return tell(ofGuard(i, what));
    }

    public int mark(int i, int kind) {
        if (!isGuard(i) || kind == GUARD || !isWithin(kind, KINDS)) {
            return BAD;
        }
        if (!guards[i].is(kind)) {
            return found(UNLIKE);
        }
        alike.resemble(guards[i]);
        alike.kind = ABOVE[kind];
        return Math.abs(reckoned(guards[i]) - reckoned(alike));
    }

    public int figure(int k) {
        return isWithin(k, number.size) ? number.figures[k] : BAD;
    }

    // ---- 2 deeds

    public int add(int f) {
        if (!isWithin(f, TEN)) {
            return BAD;
        }
        if (guardCount == 0 || number.size >= FIGURES_MOST) {
            return STATE;
        }
        if (number.deeds >= DEEDS_MOST) {
            return FULL;
        }
        number.remember();
        number.append(f);
        return number.size;
    }

    public int drop() {
        if (number.size == 0) {
            return STATE;
        }
        if (number.deeds >= DEEDS_MOST) {
            return FULL;
        }
        number.remember();
        return number.removeLast();
    }

    public int change(int k, int f) {
        if (!isWithin(k, number.size) || !isWithin(f, TEN)) {
            return BAD;
        }
        int was = number.figures[k];
        if (was == f) {
            return STATE;
        }
        if (number.deeds >= DEEDS_MOST) {
            return FULL;
        }
        number.remember();
        number.figures[k] = f;
        return was;
    }

    public int swap(int k) {
        if (!isWithin(k, number.size - 1)) {
            return BAD;
        }
        if (number.deeds >= DEEDS_MOST) {
            return FULL;
        }
        number.remember();
        exchange(number.figures, k, k + 1);
        return number.figures[k];
    }

    public int undo(int n) {
        if (n < 0 || n > number.deeds) {
            return BAD;
        }
        int undone = number.deeds - n;
        number.goBackTo(n);
        return undone;
    }

    public int keep(int k) {
        if (!isWithin(k, KEPT)) {
            return BAD;
        }
        if (guardCount == 0) {
            return STATE;
        }
        kept[k].resemble(number);
        kept[k].isThere = true;
        return number.deeds;
    }

    public int on(int k) {
        if (!isWithin(k, KEPT)) {
            return BAD;
        }
        if (!kept[k].isThere) {
            return found(NOTHING);
        }
        number.resemble(kept[k]);
        return number.deeds;
    }

    // ---- 3 what nobody notices (aside)

    public int slips(int i) {
        return tellUnseen(i, SLIPS);
    }

    public int swaps(int i) {
        return tellUnseen(i, SWAPS);
    }

    public int jumps(int i) {
        return tellUnseen(i, JUMPS);
    }

    public int best() {
        if (guardCount == 0) {
            return STATE;
        }
        watch.look(number, guards, 0, guardCount);
        int best = 0;
        int fewest = watch.unseen(0);
        for (int i = 1; i < guardCount; i++) {
            int unseen = watch.unseen(i);
            if (unseen < fewest) {
                best = i;
                fewest = unseen;
            }
        }
        told = fewest;
        return best;
    }

    public int cover() {
        if (guardCount == 0) {
            return STATE;
        }
        watch.look(number, guards, 0, guardCount);
        int fewest = NONE;
        for (int some = 0; some < 1 << guardCount; some++) {
            boolean fewer = fewest == NONE || Integer.bitCount(some) < Integer.bitCount(fewest);
            if (fewer && watch.isCoveredBy(some)) {
                fewest = some;
            }
        }
        if (fewest != NONE) {
            told = watch.things;
        }
        return fewest;
    }

    // ---- 4 what to write (aside)

    public int next(int i, int c) {
        if (!isGuard(i) || !isCheck(c)) {
            return BAD;
        }
        if (number.size >= FIGURES_MOST) {
            return STATE;
        }
        int fitting = 0;
        for (int f = 0; f < TEN; f++) {
            if (reckonedWith(guards[i], f) == c) {
                fitting |= 1 << f;
            }
        }
        return fitting;
    }

    public int near(int i, int c) {
        if (!isGuard(i) || !isCheck(c)) {
            return BAD;
        }
        int others = outlook.fewestOthers(guards[i], number, c);
        if (others > 2) {
            return NONE;
        }
        told = outlook.least;
        return others;
    }

    public int fills(int i, int c, int r) {
        if (!isGuard(i) || !isCheck(c) || !isWithin(r, ROWS)) {
            return BAD;
        }
        Row row = rows[r];
        if (!row.isThere()) {
            return found(NOTHING);
        }
        if (row.size < 1 || row.size > FIGURES_MOST) {
            return found(SIZE);
        }
        if (!isSmearedNumber(row)) {
            return found(UNLIKE);
        }
        int ways = outlook.waysToFill(guards[i], row, c);
        if (ways == 0) {
            return NONE;
        }
        told = outlook.least;
        return ways;
    }

    // ---- 5 which guard it is

    public int kinds(int i, int r) {
        if (!isGuard(i) || !isWithin(r, ROWS)) {
            return BAD;
        }
        int refused = refusedExample(rows[r]);
        return refused != 0 ? refused : kindsBy(guards[i], rows[r]);
    }

    public int firsts(int i, int r) {
        if (!isGuard(i) || !isWithin(r, ROWS)) {
            return BAD;
        }
        int refused = refusedExample(rows[r]);
        if (refused != 0) {
            return refused;
        }
        int possible = 0;
        alike.resemble(guards[i]);
        for (int first = 0; first < TEN; first++) {
            alike.first = first;
            if (reckonsAsTold(alike, rows[r])) {
                possible |= 1 << first;
            }
        }
        return possible;
    }

    public int test(int i, int r) {
        if (!isGuard(i) || !isWithin(r, ROWS)) {
            return BAD;
        }
        if (number.size >= FIGURES_MOST) {
            return STATE;
        }
        int refused = refusedExample(rows[r]);
        if (refused != 0) {
            return refused;
        }
        int possible = kindsBy(guards[i], rows[r]);
        if (possible == 0) {
            return NONE;
        }
        int best = 0;
        int least = greatestPart(guards[i], possible, 0);
        for (int f = 1; f < TEN; f++) {
            int part = greatestPart(guards[i], possible, f);
            if (part < least) {
                best = f;
                least = part;
            }
        }
        told = least;
        return best;
    }

    // ---- 6 by turns

    public int duel(int i, int n) {
        if (!isGuard(i) || n < 0 || n > TURNS_MOST) {
            return BAD;
        }
        return outlook.endOfTurns(guards[i], number, n);
    }

    // ---- 7 chances, lots

    public int odds(int i, int p) {
        if (!isGuard(i) || p < 0 || p > PARTS) {
            return BAD;
        }
        // The copy that is no other one is reckoned alike, too, and goes out again.
        long alikeCopies = outlook.copiesReckonedAlike(guards[i], number, p);
        return tellShare(alikeCopies - power(PARTS - p, number.size));
    }

    public int mid(int i, int p) {
        if (!isGuard(i) || p < 0 || p > PARTS) {
            return BAD;
        }
        return tellShare(outlook.reckonedOverCopies(guards[i], number, p));
    }

    public int lots(int n, int seed) {
        if (n < 1 || n > LOTS_MOST || seed < 1 || seed >= LOTS_MODULUS) {
            return BAD;
        }
        if (guardCount == 0) {
            return STATE;
        }
        if (number.deeds + n > DEEDS_MOST) {
            return FULL;
        }
        long lot = seed;
        for (int d = 0; d < n; d++) {
            lot = lot * LOTS_TIMES % LOTS_MODULUS;
            number.remember();
            number.doByLot((int) lot);
        }
        return number.size;
    }

    // ---- 8 what is told

    public int asked() {
        return told;
    }

    public long upper() {
        return upperTold;
    }

    public long lower() {
        return lowerTold;
    }

    public int count(int what) {
        if (!isWithin(what, COUNTS)) {
            return BAD;
        }
        return counted(what);
    }

    public int finding() {
        return latest;
    }

    public int findings(int f) {
        return f >= NOTHING && f <= SIZE ? answered[f] : BAD;
    }

    public long digest() {
        long h = 17;
        for (int what = 0; what < COUNTS; what++) {
            h = 31 * h + counted(what);
        }
        for (int i = 0; i < guardCount; i++) {
            for (int what = 0; what < GUARD_TELLS; what++) {
                h = 31 * h + ofGuard(i, what);
            }
        }
        for (int k = 0; k < KEPT; k++) {
            h = 31 * h + (kept[k].isThere ? kept[k].deeds : -1);
        }
        for (int r = 0; r < ROWS; r++) {
            h = rows[r].digestOn(h);
        }
        for (int t = 0; t < TEXTS; t++) {
            h = texts[t].digestOn(h);
        }
        return h;
    }

    // ---- what the calls share

    private static boolean isWithin(int i, int bound) {
        return i >= 0 && i < bound;
    }

    private static boolean isCheck(int c) {
        return c >= 0 && c <= CHECK_MOST;
    }

    private boolean isGuard(int i) {
        return isWithin(i, guardCount);
    }

    private int found(int finding) {
        latest = finding;
        answered[finding]++;
        return FINDING;
    }

    private int tell(int v) {
        told = v;
        return 1;
    }

    private int tellUnseen(int i, int sort) {
        if (!isGuard(i)) {
            return BAD;
        }
        watch.look(number, guards, i, i + 1);
        int unseen = watch.unseen(i, sort);
        if (unseen == 0) {
            return NONE;
        }
        told = watch.firstUnseen(i, sort);
        return unseen;
    }

    /** Tells a share of all copies of THE NUMBER, of which there are 12 for each figure. */
    private int tellShare(long share) {
        long all = power(PARTS, number.size);
        long common = commonDivisor(all, share);
        if (common > 0) {
            upperTold = share / common;
            lowerTold = all / common;
        }
        return 1;
    }

    private static long power(int base, int times) {
        long product = 1;
        for (int t = 0; t < times; t++) {
            product *= base;
        }
        return product;
    }

    private static long commonDivisor(long a, long b) {
        long one = a;
        long other = b;
        // Two rounds halve both numbers at least, so 128 are enough for any long.
        for (int round = 0; round < 128 && other != 0; round++) {
            long rest = one % other;
            one = other;
            other = rest;
        }
        return one;
    }

    private static void exchange(int[] figures, int j, int k) {
        int was = figures[j];
        figures[j] = figures[k];
        figures[k] = was;
    }

    private int renew(Row row, int n, int filling) {
        if (n < 0) {
            return found(SIZE);
        }
        row.renew(n, filling);
        return n;
    }

    /** 0: the place is there. */
    private int refusedPlace(int r, int i) {
        if (!isWithin(r, ROWS)) {
            return BAD;
        }
        if (!rows[r].isThere()) {
            return found(NOTHING);
        }
        return rows[r].hasPlaces(i, 1) ? 0 : found(BEYOND);
    }

    /** 0: the ROW has figures, and behind them what was RECKONED over them. */
    private int refusedExample(Row row) {
        if (!row.isThere()) {
            return found(NOTHING);
        }
        if (row.size < 2 || row.size > FIGURES_MOST + 1) {
            return found(SIZE);
        }
        int last = row.size - 1;
        for (int k = 0; k < last; k++) {
            if (!isWithin(row.places[k], TEN)) {
                return found(UNLIKE);
            }
        }
        return isCheck(row.places[last]) ? 0 : found(UNLIKE);
    }

    private static boolean isSmearedNumber(Row row) {
        int smeared = 0;
        for (int k = 0; k < row.size; k++) {
            if (row.places[k] == SMEARED) {
                smeared++;
            } else if (!isWithin(row.places[k], TEN)) {
                return false;
            }
        }
        return smeared <= SMEARED_MOST;
    }

    private int reckoned(Guard guard) {
        return guard.reckon(number.figures, number.size);
    }

    /** Only while there are less than 8 figures. */
    private int reckonedWith(Guard guard, int f) {
        int size = number.size;
        if (size >= scratch.length) {
            return NONE;
        }
        System.arraycopy(number.figures, 0, scratch, 0, size);
        scratch[size] = f;
        return guard.reckon(scratch, size + 1);
    }

    private static boolean reckonsAsTold(Guard guard, Row example) {
        int last = example.size - 1;
        return guard.reckon(example.places, last) == example.places[last];
    }

    private int kindsBy(Guard guard, Row example) {
        int possible = 0;
        alike.resemble(guard);
        for (int kind = 0; kind < KINDS; kind++) {
            alike.kind = kind;
            if (reckonsAsTold(alike, example)) {
                possible |= 1 << kind;
            }
        }
        return possible;
    }

    /** How many of the KINDS, at most, RECKON alike once f is PUT. */
    private int greatestPart(Guard guard, int possible, int f) {
        int greatest = 0;
        for (int c = 0; c <= CHECK_MOST; c++) {
            parts[c] = 0;
        }
        alike.resemble(guard);
        for (int kind = 0; kind < KINDS; kind++) {
            alike.kind = kind;
            int c = reckonedWith(alike, f);
            if ((possible >> kind & 1) == 1 && isCheck(c)) {
                parts[c]++;
                greatest = Math.max(greatest, parts[c]);
            }
        }
        return greatest;
    }

    private int ofGuard(int i, int what) {
        switch (what) {
            case 0:
                return guards[i].kind;
            case 1:
                return guards[i].first;
            case 2:
                return guards[i].step;
            case 3:
                return reckoned(guards[i]);
            default:
                watch.look(number, guards, i, i + 1);
                return watch.unseen(i, SLIPS);
        }
    }

    private int counted(int what) {
        switch (what) {
            case 0:
                return guardCount;
            case 1:
                return number.size;
            case 2:
                return number.deeds;
            case 3:
                return asNumber(number.figures, number.size);
            case 4:
                return reckonedTogether();
            case 5:
                return noticingAllSlips();
            case 6:
                return howManyThere(rows);
            case 7:
                return howManyThere(texts);
            case 8:
                return keptCount();
            case 9:
                return howManyAre(ELEVEN);
            default:
                return howManyAre(CROSS);
        }
    }

    private static int asNumber(int[] figures, int size) {
        int value = 0;
        for (int k = 0; k < size; k++) {
            value = value * TEN + figures[k];
        }
        return value;
    }

    private int reckonedTogether() {
        int sum = 0;
        for (int i = 0; i < guardCount; i++) {
            sum += reckoned(guards[i]);
        }
        return sum;
    }

    private int noticingAllSlips() {
        watch.look(number, guards, 0, guardCount);
        int noticing = 0;
        for (int i = 0; i < guardCount; i++) {
            if (watch.unseen(i, SLIPS) == 0) {
                noticing |= 1 << i;
            }
        }
        return noticing;
    }

    private static int howManyThere(Row[] some) {
        int there = 0;
        for (int r = 0; r < some.length; r++) {
            if (some[r].isThere()) {
                there++;
            }
        }
        return there;
    }

    private int keptCount() {
        int there = 0;
        for (int k = 0; k < KEPT; k++) {
            if (kept[k].isThere) {
                there++;
            }
        }
        return there;
    }

    private int howManyAre(int kind) {
        int such = 0;
        for (int i = 0; i < guardCount; i++) {
            if (guards[i].is(kind)) {
                such++;
            }
        }
        return such;
    }

    /** A ROW, or a TEXT, whose bytes are held as ints. */
    private static final class Row {
        static final int MISSING = -1;

        final int[] places;
        int size;

        Row(int most) {
            places = new int[most];
            size = MISSING;
        }

        boolean isThere() {
            return size != MISSING;
        }

        void renew(int n, int filling) {
            size = Math.min(n, places.length);
            for (int i = 0; i < size; i++) {
                places[i] = filling;
            }
        }

        /** Written so that no sum can run over. */
        boolean hasPlaces(int from, int n) {
            return from >= 0 && n <= size && from <= size - n;
        }

        int replace(int i, int v) {
            int was = places[i];
            places[i] = v;
            return was;
        }

        long sum() {
            long sum = 0;
            for (int i = 0; i < size; i++) {
                sum += places[i];
            }
            return sum;
        }

        long digestOn(long before) {
            long h = 31 * before + size;
            for (int i = 0; i < size; i++) {
                h = 31 * h + places[i];
            }
            return h;
        }
    }

    private static final class Guard {
        int kind;
        int first;
        int step;

        void resemble(Guard other) {
            kind = other.kind;
            first = other.first;
            step = other.step;
        }

        boolean is(int wanted) {
            int own = kind;
            for (int up = 0; up < KINDS && own >= 0; up++) {
                if (own == wanted) {
                    return true;
                }
                own = ABOVE[own];
            }
            return false;
        }

        /**
         * What it has so far, once it has looked at the figure at a place, too. All KINDS go from the left
         * on, so that tables over places and what a GUARD has so far do for all of them.
         */
        int follow(int sofar, int place, int figure, int size) {
            switch (kind) {
                case ELEVEN:
                    return (sofar + figure * weight(place)) % 11;
                case CROSS:
                case DOUBLE:
                    return (sofar + crossSum(figure * weight(place))) % 10;
                case CHAIN:
                    return (sofar * first + figure + step) % 10;
                case BACK:
                    return (sofar + figure * weight(size - 1 - place)) % 11;
                default:
                    return (sofar + figure * weight(place)) % 10;
            }
        }

        private int weight(int place) {
            return (first + place * step) % 10;
        }

        private static int crossSum(int product) {
            return product / 10 + product % 10;
        }

        int finish(int sofar, int size) {
            return kind == DOUBLE ? (2 * sofar + size) % 10 : sofar;
        }

        int reckon(int[] figures, int size) {
            int sofar = 0;
            for (int k = 0; k < size; k++) {
                sofar = follow(sofar, k, figures[k], size);
            }
            return finish(sofar, size);
        }
    }

    /** Reads a TEXT; the house stays as it is, as the TEXT may have a FAULT. */
    private static final class Reader {
        final Guard[] guards;
        int guardCount;

        Reader() {
            guards = new Guard[GUARDS_MOST];
            for (int i = 0; i < GUARDS_MOST; i++) {
                guards[i] = new Guard();
            }
        }

        /** The FAULT, or NONE. */
        int read(Row text) {
            guardCount = 0;
            int place = 0;
            for (int round = 0; round < TEXT_MOST && place < text.size; round++) {
                if (text.places[place] == BLANK) {
                    place++;
                    continue;
                }
                int fault = readGuard(text, place);
                if (fault != NONE) {
                    return fault;
                }
                place += 3;
            }
            return guardCount < GUARDS_LEAST ? text.size : NONE;
        }

        private int readGuard(Row text, int place) {
            int kind = kindOf(text.places[place]);
            if (kind == NONE || guardCount >= GUARDS_MOST) {
                return place;
            }
            for (int k = place + 1; k <= place + 2; k++) {
                if (k >= text.size) {
                    return text.size;
                }
                if (!isWithin(text.places[k] - FIGURE_0, TEN)) {
                    return k;
                }
            }
            Guard guard = guards[guardCount];
            guard.kind = kind;
            guard.first = text.places[place + 1] - FIGURE_0;
            guard.step = text.places[place + 2] - FIGURE_0;
            guardCount++;
            return NONE;
        }

        private static int kindOf(int letter) {
            for (int kind = 0; kind < KINDS; kind++) {
                if (LETTERS[kind] == letter) {
                    return kind;
                }
            }
            return NONE;
        }
    }

    /** THE NUMBER and the DEEDS by which it came about. */
    private static final class Writing {
        final int[] figures;
        int size;
        int deeds;
        /** What stood there ahead of each DEED: the figures behind a 1, so that noughts ahead count, too. */
        final int[] before;
        /** Of a kept one alone. */
        boolean isThere;

        Writing() {
            figures = new int[FIGURES_MOST];
            before = new int[DEEDS_MOST];
        }

        void clear() {
            size = 0;
            deeds = 0;
        }

        void resemble(Writing other) {
            size = other.size;
            deeds = other.deeds;
            System.arraycopy(other.figures, 0, figures, 0, size);
            System.arraycopy(other.before, 0, before, 0, deeds);
        }

        /** To be called ahead of each DEED. */
        void remember() {
            if (deeds >= DEEDS_MOST) {
                return;
            }
            int standing = 1;
            for (int k = 0; k < size; k++) {
                standing = standing * TEN + figures[k];
            }
            before[deeds] = standing;
            deeds++;
        }

        void goBackTo(int n) {
            if (n < 0 || n >= deeds) {
                return;
            }
            deeds = n;
            size = 0;
            for (int rest = before[n]; rest >= TEN && size < FIGURES_MOST; rest /= TEN) {
                size++;
            }
            int rest = before[n];
            for (int k = size - 1; k >= 0; k--) {
                figures[k] = rest % TEN;
                rest /= TEN;
            }
        }

        void append(int f) {
            if (size < FIGURES_MOST) {
                figures[size] = f;
                size++;
            }
        }

        int removeLast() {
            if (size == 0) {
                return NONE;
            }
            size--;
            return figures[size];
        }

        void doByLot(int lot) {
            int f = lot / 8 % TEN;
            int place = lot / 128 % FIGURES_MOST;
            int deed = lot % 4;
            if (deed <= 1) {
                append(f);
            } else if (deed == 2) {
                removeLast();
            } else if (isWithin(place, size)) {
                figures[place] = f;
            }
        }
    }

    /** All SLIPS, then all SWAPS, then all JUMPS of THE NUMBER, and which GUARDS NOTICE each. */
    private static final class Watch {
        static final int SORTS = 3, THINGS_MOST = FIGURES_MOST * 9 + FIGURES_MOST * 2;

        /** 10 times the PLACE and the figure of a SLIP, the left PLACE of another thing. */
        final int[] marks;
        final int[] noticedBy;
        int things;
        /** Where the things of each sort end. */
        final int[] ends;
        final int[] copied;
        final int[] due;

        Watch() {
            marks = new int[THINGS_MOST];
            noticedBy = new int[THINGS_MOST];
            ends = new int[SORTS];
            copied = new int[FIGURES_MOST];
            due = new int[GUARDS_MOST];
        }

        /** Looks for GUARDS number from .. to - 1 alone. */
        void look(Writing number, Guard[] guards, int from, int to) {
            listThings(number);
            for (int i = from; i < to; i++) {
                due[i] = guards[i].reckon(number.figures, number.size);
            }
            for (int t = 0; t < things; t++) {
                copyWith(t, number);
                for (int i = from; i < to; i++) {
                    if (guards[i].reckon(copied, number.size) != due[i]) {
                        noticedBy[t] |= 1 << i;
                    }
                }
            }
        }

        int unseen(int i) {
            return unseen(i, SLIPS) + unseen(i, SWAPS) + unseen(i, JUMPS);
        }

        int unseen(int i, int sort) {
            int unseen = 0;
            for (int t = startOf(sort); t < ends[sort]; t++) {
                if (!isNoticed(t, 1 << i)) {
                    unseen++;
                }
            }
            return unseen;
        }

        int firstUnseen(int i, int sort) {
            for (int t = startOf(sort); t < ends[sort]; t++) {
                if (!isNoticed(t, 1 << i)) {
                    return marks[t];
                }
            }
            return NONE;
        }

        boolean isCoveredBy(int some) {
            for (int t = 0; t < things; t++) {
                if (!isNoticed(t, some)) {
                    return false;
                }
            }
            return true;
        }

        private boolean isNoticed(int t, int some) {
            return (noticedBy[t] & some) != 0;
        }

        private int startOf(int sort) {
            return sort == SLIPS ? 0 : ends[sort - 1];
        }

        private void listThings(Writing number) {
            things = 0;
            for (int k = 0; k < number.size; k++) {
                for (int f = 0; f < TEN; f++) {
                    if (f != number.figures[k]) {
                        list(k * TEN + f);
                    }
                }
            }
            ends[SLIPS] = things;
            listExchanges(number, 1);
            ends[SWAPS] = things;
            listExchanges(number, 2);
            ends[JUMPS] = things;
        }

        private void listExchanges(Writing number, int apart) {
            for (int k = 0; k < number.size - apart; k++) {
                if (number.figures[k] != number.figures[k + apart]) {
                    list(k);
                }
            }
        }

        private void list(int mark) {
            if (things < THINGS_MOST) {
                marks[things] = mark;
                noticedBy[things] = 0;
                things++;
            }
        }

        private void copyWith(int t, Writing number) {
            System.arraycopy(number.figures, 0, copied, 0, number.size);
            if (t < ends[SLIPS]) {
                copied[marks[t] / TEN] = marks[t] % TEN;
            } else {
                exchange(copied, marks[t], marks[t] + (t < ends[SWAPS] ? 1 : 2));
            }
        }
    }

    /**
     * What can still come of it, from each place on, for all that a GUARD may have so far: reckoned from the
     * right end on, so that each figure is tried once a place, not once a number.
     */
    private static final class Outlook {
        static final int SOFARS = 11;
        static final int FAR = 100;

        final long[] values;
        /** The least number of those asked for. */
        int least;

        Outlook() {
            values = new long[(FIGURES_MOST + 1) * SOFARS];
        }

        /** How many figures are to be others so that the GUARD RECKONS c; FAR or more: that can't be. */
        int fewestOthers(Guard guard, Writing number, int c) {
            int size = number.size;
            endWithCheck(guard, size, c, 0, FAR);
            for (int k = size - 1; k >= 0; k--) {
                for (int sofar = 0; sofar < SOFARS; sofar++) {
                    long fewest = FAR;
                    for (int f = 0; f < TEN; f++) {
                        fewest = Math.min(fewest, othersWith(guard, number, k, sofar, f));
                    }
                    keepValue(k, sofar, fewest);
                }
            }
            least = 0;
            int sofar = 0;
            for (int k = 0; k < size; k++) {
                int f = 0;
                while (f < TEN - 1 && othersWith(guard, number, k, sofar, f) != valueOf(k, sofar)) {
                    f++;
                }
                least = least * TEN + f;
                sofar = guard.follow(sofar, k, f, size);
            }
            return (int) valueOf(0, 0);
        }

        private long othersWith(Guard guard, Writing number, int k, int sofar, int f) {
            int other = f == number.figures[k] ? 0 : 1;
            return other + valueOf(k + 1, guard.follow(sofar, k, f, number.size));
        }

        /** In how many ways the smeared figures can be filled in so that the GUARD RECKONS c. */
        int waysToFill(Guard guard, Row smeared, int c) {
            int size = smeared.size;
            endWithCheck(guard, size, c, 1, 0);
            for (int k = size - 1; k >= 0; k--) {
                for (int sofar = 0; sofar < SOFARS; sofar++) {
                    long ways = 0;
                    for (int f = 0; f < TEN; f++) {
                        ways += waysWith(guard, smeared, k, sofar, f);
                    }
                    keepValue(k, sofar, ways);
                }
            }
            least = 0;
            int sofar = 0;
            for (int k = 0; k < size; k++) {
                int f = 0;
                while (f < TEN - 1 && waysWith(guard, smeared, k, sofar, f) == 0) {
                    f++;
                }
                least = least * TEN + f;
                sofar = guard.follow(sofar, k, f, size);
            }
            return (int) valueOf(0, 0);
        }

        private long waysWith(Guard guard, Row smeared, int k, int sofar, int f) {
            if (smeared.places[k] != SMEARED && smeared.places[k] != f) {
                return 0;
            }
            return valueOf(k + 1, guard.follow(sofar, k, f, smeared.size));
        }

        /** What the GUARD RECKONS at last, if two PUT figures by turns, the first one for much. */
        int endOfTurns(Guard guard, Writing number, int turns) {
            int size = number.size + Math.min(turns, FIGURES_MOST - number.size);
            endWithReckoned(guard, size);
            for (int k = size - 1; k >= number.size; k--) {
                boolean wantsMuch = (k - number.size) % 2 == 0;
                for (int sofar = 0; sofar < SOFARS; sofar++) {
                    keepValue(k, sofar, afterBestFigure(guard, k, sofar, size, wantsMuch));
                }
            }
            int sofar = 0;
            for (int k = 0; k < number.size; k++) {
                sofar = guard.follow(sofar, k, number.figures[k], size);
            }
            return (int) valueOf(number.size, sofar);
        }

        private long afterBestFigure(Guard guard, int k, int sofar, int size, boolean wantsMuch) {
            long best = valueOf(k + 1, guard.follow(sofar, k, 0, size));
            for (int f = 1; f < TEN; f++) {
                long value = valueOf(k + 1, guard.follow(sofar, k, f, size));
                best = wantsMuch ? Math.max(best, value) : Math.min(best, value);
            }
            return best;
        }

        /** Of 12 copies for each figure, those over which the GUARD RECKONS what it does over THE NUMBER. */
        long copiesReckonedAlike(Guard guard, Writing number, int p) {
            endWithCheck(guard, number.size, guard.reckon(number.figures, number.size), 1, 0);
            return overCopies(guard, number, p);
        }

        /** What the GUARD RECKONS over all those copies, together. */
        long reckonedOverCopies(Guard guard, Writing number, int p) {
            endWithReckoned(guard, number.size);
            return overCopies(guard, number, p);
        }

        private long overCopies(Guard guard, Writing number, int p) {
            int size = number.size;
            for (int k = size - 1; k >= 0; k--) {
                int own = number.figures[k];
                int following = (own + 1) % TEN;
                for (int sofar = 0; sofar < SOFARS; sofar++) {
                    long slipped = valueOf(k + 1, guard.follow(sofar, k, following, size));
                    long same = valueOf(k + 1, guard.follow(sofar, k, own, size));
                    keepValue(k, sofar, p * slipped + (PARTS - p) * same);
                }
            }
            return valueOf(0, 0);
        }

        private void endWithCheck(Guard guard, int size, int c, int fitting, int unfitting) {
            for (int sofar = 0; sofar < SOFARS; sofar++) {
                keepValue(size, sofar, guard.finish(sofar, size) == c ? fitting : unfitting);
            }
        }

        private void endWithReckoned(Guard guard, int size) {
            for (int sofar = 0; sofar < SOFARS; sofar++) {
                keepValue(size, sofar, guard.finish(sofar, size));
            }
        }

        private long valueOf(int k, int sofar) {
            int place = k * SOFARS + sofar;
            return isWithin(place, values.length) ? values[place] : 0;
        }

        private void keepValue(int k, int sofar, long value) {
            int place = k * SOFARS + sofar;
            if (isWithin(place, values.length)) {
                values[place] = value;
            }
        }
    }
}
