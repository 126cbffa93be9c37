/**
 * Ways to step laws of motion, judged by little trees, all numbers modulo a prime. README.md says how to use it;
 * the words in capitals are those of the document.
 */
public final class TreeSteps {
    public static final int NONE = -1000000, BAD = -1000001, FULL = -1000003;

    private static final int FINDINGS = -1000010;
    private static final int NULL = 1, PLACE = 2, KIND = 3, SIZE = 4, STORE = 5;

    private static final int SHEETS = 8, MOST_ITEMS = 80;
    private static final int PLACES = 10, MOST_STAGES = 8, MOST_STAGES_READ = 4;
    private static final int TREES = 37, MOST_KNOTS = 6;
    private static final int TABLE = 0, LOWER = 1, PLAIN = 2, KEEPING = 3;
    private static final int MOST_POWER = 9, MOST_STEPS = 1000;

    private final Modulus mod;
    private final Forest forest;
    private final Weigher weigher;
    private final Shares shares;
    private final Trace traced;
    private final Sheet[] sheets;
    private final Table[] shelf;
    private final long[] offsets;
    private int latestFinding;

    public TreeSteps(int p) {
        mod = new Modulus(p);
        forest = new Forest();
        weigher = new Weigher(mod, forest);
        shares = new Shares(mod);
        traced = new Trace();
        sheets = new Sheet[SHEETS];
        for (int i = 0; i < SHEETS; i++) {
            sheets[i] = new Sheet();
        }
        shelf = new Table[PLACES];
        offsets = new long[MOST_STAGES];
    }

    // ---- sheets

    public int sheet(int sheet, int lane, int n) {
        if (noSheet(sheet) || lane < 0 || lane > Sheet.LONGS || n > MOST_ITEMS) {
            return BAD;
        }
        if (n < 0) {
            return found(SIZE);
        }
        sheets[sheet].begin(lane, n);
        return well(n);
    }

    public long set(int sheet, int i, long v) {
        if (noSheet(sheet)) {
            return BAD;
        }
        Sheet to = sheets[sheet];
        if (to.missing()) {
            return found(NULL);
        }
        if (!to.holds(i, 1)) {
            return found(PLACE);
        }
        latestFinding = 0;
        return to.put(i, v);
    }

    public int copy(int a, int i, int b, int j, int n) {
        if (noSheet(a) || noSheet(b)) {
            return BAD;
        }
        Sheet from = sheets[a];
        Sheet to = sheets[b];
        if (from.missing() || to.missing()) {
            return found(NULL);
        }
        if (from.lane != to.lane) {
            return found(STORE);
        }
        if (!from.holds(i, n) || !to.holds(j, n)) {
            return found(PLACE);
        }
        System.arraycopy(from.items, i, to.items, j, n);
        return well(n);
    }

    public int drop(int sheet) {
        if (noSheet(sheet)) {
            return BAD;
        }
        Sheet gone = sheets[sheet];
        if (gone.missing()) {
            return found(NULL);
        }
        gone.lane = Sheet.MISSING;
        return well(gone.length);
    }

    // ---- trees

    public int trees(int n) {
        if (n < 1 || n > MOST_KNOTS) {
            return BAD;
        }
        return forest.howMany(n);
    }

    public int tree(int tree, int what) {
        if (noTree(tree)) {
            return BAD;
        }
        switch (what) {
            case 0: return forest.knots[tree];
            case 1: return forest.symmetry[tree];
            case 2: return forest.density[tree];
            case 3: return forest.branches[tree];
            default: return BAD;
        }
    }

    public int level(int tree, int k) {
        if (noTree(tree)) {
            return BAD;
        }
        if (k < 0 || k >= forest.knots[tree]) {
            return NONE;
        }
        return forest.levels[tree][k];
    }

    public int hang(int a, int b) {
        if (noTree(a) || noTree(b)) {
            return BAD;
        }
        return forest.hung[a][b];
    }

    // ---- tables

    public int table(int place, int sheet, int i, int s) {
        if (noPlace(place) || noSheet(sheet) || s < 1 || s > MOST_STAGES_READ) {
            return BAD;
        }
        Sheet from = sheets[sheet];
        if (from.missing()) {
            return found(NULL);
        }
        Stages made = new Stages(s);
        if (!from.holds(i, 2 * made.row.length)) {
            return found(PLACE);
        }
        if (!readFractions(from, i, made.row)) {
            return BAD;
        }
        return shelve(place, made);
    }

    public int behind(int to, int a, int b) {
        if (noPlace(to) || noPlace(a) || noPlace(b)) {
            return BAD;
        }
        Table first = shelf[a];
        Table second = shelf[b];
        if (first == null || second == null) {
            return found(NULL);
        }
        if (first.stages.count + second.stages.count > MOST_STAGES) {
            return FULL;
        }
        return shelve(to, joined(first.stages, second.stages));
    }

    public int turn(int to, int place, int how) {
        if (noPlace(to) || noPlace(place) || how < 0 || how > 1) {
            return BAD;
        }
        Table from = shelf[place];
        if (from == null) {
            return found(NULL);
        }
        return shelve(to, how == 0 ? undone(from.stages) : turned(from.stages));
    }

    public int scale(int to, int place, int c) {
        if (noPlace(to) || noPlace(place) || c < 0 || c >= mod.p) {
            return BAD;
        }
        Table from = shelf[place];
        if (from == null) {
            return found(NULL);
        }
        return shelve(to, scaled(from.stages, c));
    }

    public int clear(int place) {
        if (noPlace(place)) {
            return BAD;
        }
        int was = shelf[place] == null ? 0 : 1;
        shelf[place] = null;
        return was;
    }

    public int number(int place, int i, int j) {
        if (noPlace(place)) {
            return BAD;
        }
        Table asked = shelf[place];
        if (asked == null) {
            return found(NULL);
        }
        int s = asked.stages.count;
        if (i == -1) {
            return well(s);
        }
        if (i < 0 || i > s || j < 0 || j >= s) {
            return BAD;
        }
        return well((int) (i == s ? asked.stages.b(j) : asked.stages.a(i, j)));
    }

    public int kind(int place) {
        if (noPlace(place)) {
            return BAD;
        }
        Table asked = shelf[place];
        return asked == null ? found(NULL) : well(asked.told());
    }

    public int is(int place, int kind) {
        if (noPlace(place) || noKind(kind)) {
            return BAD;
        }
        return belongs(shelf[place], kind) ? 1 : 0;
    }

    public int as(int place, int kind) {
        if (noPlace(place) || noKind(kind)) {
            return BAD;
        }
        Table taken = shelf[place];
        if (taken == null) {
            return found(NULL);
        }
        return belongs(taken, kind) ? well(taken.stages.count) : found(KIND);
    }

    public int ask(int place, int what) {
        if (noPlace(place) || what < 0 || what > 1) {
            return BAD;
        }
        traced.length = 0;
        Table asked = shelf[place];
        if (asked == null) {
            return found(NULL);
        }
        return well(what == 0 ? asked.size(traced) : asked.mark(traced));
    }

    public int trace(int i) {
        return i < 0 || i >= traced.length ? NONE : traced.numbers[i];
    }

    // ---- judged

    public int weight(int place, int tree) {
        if (noPlace(place) || noTree(tree)) {
            return BAD;
        }
        Table judged = shelf[place];
        return judged == null ? found(NULL) : well(judged.weights[tree]);
    }

    public int order(int place, int what) {
        if (noPlace(place) || what < 0 || what > 1) {
            return BAD;
        }
        Table judged = shelf[place];
        if (judged == null) {
            return found(NULL);
        }
        return well(what == 0 ? judged.reached : judged.misfit);
    }

    public int share(int place, int which, int k) {
        if (noPlace(place) || which < 0 || which > 1 || k < 0 || k > MOST_STAGES) {
            return BAD;
        }
        Table judged = shelf[place];
        if (judged == null) {
            return found(NULL);
        }
        // 1 - z A + z e b is 1 - z A of the TABLE UNDONE
        return well(shares.coefficient(which == 0 ? undone(judged.stages) : judged.stages, k));
    }

    public int ride(int place, int k, int n, int h) {
        if (noPlace(place) || k < 0 || k > MOST_POWER) {
            return BAD;
        }
        if (n < 0 || n > MOST_STEPS || h < 0 || h >= mod.p) {
            return BAD;
        }
        Table ridden = shelf[place];
        return ridden == null ? found(NULL) : well((int) ridden(ridden.stages, k, n, h));
    }

    public int alike(int a, int b, int n) {
        if (noPlace(a) || noPlace(b) || n < 1 || n > MOST_KNOTS) {
            return BAD;
        }
        Table first = shelf[a];
        Table second = shelf[b];
        if (first == null || second == null) {
            return found(NULL);
        }
        return well(sameWeights(first.weights, second.weights, n) ? 1 : 0);
    }

    public int count(int what) {
        switch (what) {
            case 0: return sheetsThere();
            case 1: return tablesOf(TABLE);
            case 2: return tablesOf(LOWER);
            case 3: return tablesOf(PLAIN);
            case 4: return tablesOf(KEEPING);
            case 5: return (int) mod.p;
            default: return BAD;
        }
    }

    public int status() {
        return latestFinding;
    }

    // ---- what is refused, found, or well

    private static boolean noSheet(int sheet) {
        return sheet < 0 || sheet >= SHEETS;
    }

    private static boolean noPlace(int place) {
        return place < 0 || place >= PLACES;
    }

    private static boolean noTree(int tree) {
        return tree < 0 || tree >= TREES;
    }

    private static boolean noKind(int kind) {
        return kind < TABLE || kind > KEEPING;
    }

    private int found(int finding) {
        latestFinding = finding;
        return FINDINGS - finding;
    }

    private int well(int answer) {
        latestFinding = 0;
        return answer;
    }

    // ---- how TABLES are made

    /** Whether all FRACTIONS could be read: no lower number is 0 modulo p. */
    private boolean readFractions(Sheet from, int start, int[] row) {
        for (int k = 0; k < row.length; k++) {
            long upper = mod.of(from.items[start + 2 * k]);
            long lower = mod.of(from.items[start + 2 * k + 1]);
            if (lower == 0) {
                return false;
            }
            row[k] = (int) mod.times(upper, mod.inverse(lower));
        }
        return true;
    }

    private Stages joined(Stages first, Stages second) {
        int s = first.count;
        Stages made = new Stages(s + second.count);
        for (int j = 0; j < s; j++) {
            for (int i = 0; i < s; i++) {
                made.putA(i, j, first.a(i, j));
            }
            for (int i = s; i < made.count; i++) {
                made.putA(i, j, first.b(j));
            }
            made.putB(j, first.b(j));
        }
        for (int j = 0; j < second.count; j++) {
            for (int i = 0; i < second.count; i++) {
                made.putA(s + i, s + j, second.a(i, j));
            }
            made.putB(s + j, second.b(j));
        }
        return made;
    }

    private Stages undone(Stages from) {
        Stages made = new Stages(from.count);
        for (int j = 0; j < from.count; j++) {
            for (int i = 0; i < from.count; i++) {
                made.putA(i, j, mod.less(from.a(i, j), from.b(j)));
            }
            made.putB(j, mod.less(0, from.b(j)));
        }
        return made;
    }

    private Stages turned(Stages from) {
        int last = from.count - 1;
        Stages made = new Stages(from.count);
        for (int j = 0; j <= last; j++) {
            for (int i = 0; i <= last; i++) {
                made.putA(i, j, mod.less(from.b(last - j), from.a(last - i, last - j)));
            }
            made.putB(j, from.b(last - j));
        }
        return made;
    }

    private Stages scaled(Stages from, int c) {
        Stages made = new Stages(from.count);
        for (int k = 0; k < made.row.length; k++) {
            made.row[k] = (int) mod.times(c, from.row[k]);
        }
        return made;
    }

    private int shelve(int place, Stages made) {
        Table table = toldTable(made, weigher.weights(made));
        shelf[place] = table;
        return well(table.told());
    }

    private Table toldTable(Stages stages, int[] weights) {
        int misfit = firstMisfit(weights);
        int reached = misfit == NONE ? MOST_KNOTS : forest.knots[misfit] - 1;
        if (stages.zeroFrom(0)) {
            return new Plain(stages, weights, misfit, reached);
        }
        if (keeps(stages)) {
            return new Keeping(stages, weights, misfit, reached);
        }
        if (stages.zeroFrom(1)) {
            return new Lower(stages, weights, misfit, reached);
        }
        return new Table(stages, weights, misfit, reached);
    }

    private int firstMisfit(int[] weights) {
        for (int tree = 0; tree < TREES; tree++) {
            if (mod.times(weights[tree], forest.density[tree]) != 1) {
                return tree;
            }
        }
        return NONE;
    }

    private boolean keeps(Stages of) {
        for (int i = 0; i < of.count; i++) {
            // both sides stay the same with i and j exchanged
            for (int j = 0; j <= i; j++) {
                long here = mod.times(of.b(i), of.a(i, j));
                long there = mod.times(of.b(j), of.a(j, i));
                if (mod.plus(here, there) != mod.times(of.b(i), of.b(j))) {
                    return false;
                }
            }
        }
        return true;
    }

    // ---- how TABLES are judged

    /** By the KIND as which it is told alone: a PLAIN one that keeps products, too, is no KEEPING one. */
    private static boolean belongs(Table table, int kind) {
        switch (kind) {
            case TABLE: return table != null;
            case LOWER: return table instanceof Lower;
            case PLAIN: return table instanceof Plain;
            case KEEPING: return table instanceof Keeping;
            default: return false;
        }
    }

    private long ridden(Stages by, int k, int n, int h) {
        for (int j = 0; j < by.count; j++) {
            offsets[j] = mod.times(rowSum(by, j), h);
        }
        long x = 0;
        long y = 0;
        for (int step = 0; step < n; step++) {
            long slope = 0;
            for (int j = 0; j < by.count; j++) {
                long power = mod.power(mod.plus(x, offsets[j]), k);
                slope = mod.plus(slope, mod.times(by.b(j), power));
            }
            y = mod.plus(y, mod.times(h, slope));
            x = mod.plus(x, h);
        }
        return y;
    }

    private long rowSum(Stages of, int i) {
        long sum = 0;
        for (int j = 0; j < of.count; j++) {
            sum = mod.plus(sum, of.a(i, j));
        }
        return sum;
    }

    private boolean sameWeights(int[] first, int[] second, int mostKnots) {
        for (int tree = 0; tree < TREES && forest.knots[tree] <= mostKnots; tree++) {
            if (first[tree] != second[tree]) {
                return false;
            }
        }
        return true;
    }

    private int sheetsThere() {
        int there = 0;
        for (int i = 0; i < SHEETS; i++) {
            if (!sheets[i].missing()) {
                there++;
            }
        }
        return there;
    }

    private int tablesOf(int kind) {
        int many = 0;
        for (int place = 0; place < PLACES; place++) {
            if (belongs(shelf[place], kind)) {
                many++;
            }
        }
        return many;
    }

    /** Sums and products modulo p; what is handed in is 0 to p - 1, so a long holds every product. */
    private static final class Modulus {
        private static final int LEAST = 101, GREATEST = 2000000000, USUAL = 998244353;
        private static final int POWER_BITS = 31;

        private final long p;

        Modulus(int wanted) {
            p = fitting(wanted) ? wanted : USUAL;
        }

        private static boolean fitting(int n) {
            if (n < LEAST || n > GREATEST || n % 2 == 0) {
                return false;
            }
            for (int d = 3; (long) d * d <= n; d += 2) {
                if (n % d == 0) {
                    return false;
                }
            }
            return true;
        }

        long of(long item) {
            return Math.floorMod(item, p);
        }

        long plus(long a, long b) {
            return (a + b) % p;
        }

        long less(long a, long b) {
            return (a + p - b) % p;
        }

        long times(long a, long b) {
            return a * b % p;
        }

        long power(long base, long exponent) {
            long result = 1;
            long square = base;
            for (int bit = 0; bit < POWER_BITS && exponent >> bit != 0; bit++) {
                if ((exponent >> bit & 1) == 1) {
                    result = times(result, square);
                }
                square = times(square, square);
            }
            return result;
        }

        /** The number that makes 1 with v, v not being 0. */
        long inverse(long v) {
            return power(v, p - 2);
        }
    }

    /** A SHEET; its row of ITEMS is made once and used again, whatever the LANE. */
    private static final class Sheet {
        private static final int MISSING = -1, BYTES = 0, INTS = 1, LONGS = 2;

        private final long[] items = new long[MOST_ITEMS];
        private int lane = MISSING;
        private int length = 0;

        boolean missing() {
            return lane == MISSING;
        }

        void begin(int newLane, int n) {
            lane = newLane;
            length = n;
            for (int i = 0; i < MOST_ITEMS; i++) {
                items[i] = 0;
            }
        }

        /** Whether there are n ITEMS from a start on; no sum is made that could wrap around. */
        boolean holds(int start, int n) {
            return start >= 0 && n >= 0 && start <= length && n <= length - start;
        }

        long put(int i, long v) {
            items[i] = lane == BYTES ? (byte) v : lane == INTS ? (int) v : v;
            return items[i];
        }
    }

    /** All TREES in order, and what is known of each. */
    private static final class Forest {
        private final int[][] levels = new int[TREES][MOST_KNOTS];
        private final int[] knots = new int[TREES];
        private final int[] symmetry = new int[TREES];
        private final int[] density = new int[TREES];
        private final int[] branches = new int[TREES];
        // a TREE is what is left without the last TREE that hangs at its root, and that one
        private final int[] rest = new int[TREES];
        private final int[] last = new int[TREES];
        private final int[][] hung = new int[TREES][TREES];
        private final int[] codes = new int[TREES];

        Forest() {
            for (int a = 0; a < TREES; a++) {
                for (int b = 0; b < TREES; b++) {
                    hung[a][b] = NONE;
                }
            }
            plantFirst();
            for (int tree = 1; tree < TREES; tree++) {
                plant(tree);
                takeApart(tree);
                measure(tree);
            }
        }

        private void plantFirst() {
            knots[0] = 1;
            symmetry[0] = 1;
            density[0] = 1;
            codes[0] = code(levels[0], 0, 1, 0);
        }

        /** The row of LEVELS that comes next: the greatest below the one ahead that is a TREE's own. */
        private void plant(int tree) {
            int[] ahead = levels[tree - 1];
            int[] row = levels[tree];
            int n = knots[tree - 1];
            int at = n - 1;
            while (at > 0 && ahead[at] <= 1) {
                at--;
            }
            if (at == 0) {
                // what is ahead has all KNOTS at the root, the last of its size: the path of one more comes
                knots[tree] = n + 1;
                for (int i = 0; i <= n && i < MOST_KNOTS; i++) {
                    row[i] = i;
                }
            } else {
                knots[tree] = n;
                lower(ahead, row, at, n);
            }
            codes[tree] = code(row, 0, knots[tree], 0);
        }

        /** The KNOT at a place goes up to where its parent stands; behind it the row from the parent on repeats. */
        private static void lower(int[] ahead, int[] row, int at, int n) {
            int parent = at - 1;
            while (parent > 0 && ahead[parent] >= ahead[at]) {
                parent--;
            }
            for (int i = 0; i < n; i++) {
                row[i] = i < at ? ahead[i] : row[i - (at - parent)];
            }
        }

        /** Each TREE at the root is taken off once: this tells from what the TREE is made by hanging. */
        private void takeApart(int tree) {
            int[] row = levels[tree];
            for (int start = 1; start < knots[tree]; start++) {
                if (row[start] == 1) {
                    int end = hangingEnd(tree, start);
                    int off = numbered(code(row, start, end, 1));
                    int left = numbered(codeWithout(row, knots[tree], start, end));
                    hung[left][off] = tree;
                    rest[tree] = left;
                    last[tree] = off;
                }
            }
        }

        private void measure(int tree) {
            int left = rest[tree];
            int off = last[tree];
            branches[tree] = branches[left] + 1;
            symmetry[tree] = symmetry[left] * symmetry[off] * sameAtEnd(tree);
            density[tree] = 1;
            for (int at = 0; at < knots[tree]; at++) {
                density[tree] *= hangingEnd(tree, at) - at;
            }
        }

        /** The place behind the TREE that hangs at a place of the row. */
        private int hangingEnd(int tree, int at) {
            int[] row = levels[tree];
            int end = at + 1;
            while (end < knots[tree] && row[end] > row[at]) {
                end++;
            }
            return end;
        }

        /** How many TREES at the root are the last one; like ones hang side by side. */
        private int sameAtEnd(int tree) {
            int same = 1;
            int left = rest[tree];
            for (int i = 0; i < MOST_KNOTS && left != 0 && last[left] == last[tree]; i++) {
                same++;
                left = rest[left];
            }
            return same;
        }

        /** One number for a part of a row of LEVELS, of which some are taken off. */
        private static int code(int[] row, int start, int end, int less) {
            int code = 1;
            for (int i = start; i < end; i++) {
                code = code * 8 + row[i] - less;
            }
            return code;
        }

        private static int codeWithout(int[] row, int n, int start, int end) {
            int code = 1;
            for (int i = 0; i < n; i++) {
                if (i < start || i >= end) {
                    code = code * 8 + row[i];
                }
            }
            return code;
        }

        private int numbered(int code) {
            for (int tree = 0; tree < TREES; tree++) {
                if (codes[tree] == code) {
                    return tree;
                }
            }
            return 0;
        }

        int howMany(int n) {
            int many = 0;
            for (int tree = 0; tree < TREES; tree++) {
                if (knots[tree] == n) {
                    many++;
                }
            }
            return many;
        }
    }

    /** The numbers of a TABLE in one row: a(0, 0), a(0, 1), .., then b(0), .. */
    private static final class Stages {
        private final int count;
        private final int[] row;

        Stages(int s) {
            // all callers keep to 1 .. 8; this keeps the row's length safe by its own lines
            count = s < 1 ? 1 : Math.min(s, MOST_STAGES);
            row = new int[count * count + count];
        }

        long a(int i, int j) {
            return row[i * count + j];
        }

        long b(int j) {
            return row[count * count + j];
        }

        void putA(int i, int j, long v) {
            row[i * count + j] = (int) v;
        }

        void putB(int j, long v) {
            row[count * count + j] = (int) v;
        }

        /** Whether a(i, j) is 0 wherever j is i and an offset, or more. */
        boolean zeroFrom(int offset) {
            for (int i = 0; i < count; i++) {
                for (int j = i + offset; j < count; j++) {
                    if (a(i, j) != 0) {
                        return false;
                    }
                }
            }
            return true;
        }
    }

    /** A TABLE with what the TREES say of it, reckoned once, as it never changes; its methods are the BODIES. */
    private static class Table {
        final Stages stages;
        final int[] weights;
        final int misfit;
        final int reached;

        Table(Stages stages, int[] weights, int misfit, int reached) {
            this.stages = stages;
            this.weights = weights;
            this.misfit = misfit;
            this.reached = reached;
        }

        int told() {
            return TABLE;
        }

        int size(Trace trace) {
            trace.begin(10);
            return stages.count;
        }

        int mark(Trace trace) {
            trace.begin(20);
            return reached;
        }
    }

    private static class Lower extends Table {
        Lower(Stages stages, int[] weights, int misfit, int reached) {
            super(stages, weights, misfit, reached);
        }

        int told() {
            return LOWER;
        }

        int size(Trace trace) {
            trace.begin(11);
            return super.size(trace) + 100;
        }

        int mark(Trace trace) {
            trace.begin(21);
            return super.mark(trace) + size(trace);
        }
    }

    private static final class Plain extends Lower {
        Plain(Stages stages, int[] weights, int misfit, int reached) {
            super(stages, weights, misfit, reached);
        }

        int told() {
            return PLAIN;
        }

        int size(Trace trace) {
            trace.begin(12);
            return 2 * super.size(trace);
        }
    }

    private static final class Keeping extends Table {
        Keeping(Stages stages, int[] weights, int misfit, int reached) {
            super(stages, weights, misfit, reached);
        }

        int told() {
            return KEEPING;
        }

        int size(Trace trace) {
            trace.begin(13);
            return super.size(trace) + mark(trace);
        }

        int mark(Trace trace) {
            trace.begin(22);
            return super.mark(trace) + 10;
        }
    }

    /** THE TRACE of an ask. */
    private static final class Trace {
        private static final int MOST = 16;

        private final int[] numbers = new int[MOST];
        private int length = 0;

        void begin(int body) {
            if (length < MOST) {
                numbers[length] = body;
                length++;
            }
        }
    }

    /** Reckons WEIGHTS of a TABLE on all TREES, each from smaller ones, in rows that are used again. */
    private static final class Weigher {
        private final Modulus mod;
        private final Forest forest;
        // of a TREE with its root at a stage: the sum over the stages of all other KNOTS
        private final long[] rooted = new long[TREES * MOST_STAGES];
        // the same, if the TREE hangs at a KNOT of that stage
        private final long[] hanging = new long[TREES * MOST_STAGES];

        Weigher(Modulus mod, Forest forest) {
            this.mod = mod;
            this.forest = forest;
        }

        int[] weights(Stages of) {
            int[] weights = new int[TREES];
            for (int tree = 0; tree < TREES; tree++) {
                long weight = 0;
                for (int i = 0; i < of.count; i++) {
                    root(tree, i);
                    weight = mod.plus(weight, mod.times(of.b(i), rooted[tree * MOST_STAGES + i]));
                }
                weights[tree] = (int) weight;
                if (forest.knots[tree] < MOST_KNOTS) {
                    hangUp(tree, of);
                }
            }
            return weights;
        }

        private void root(int tree, int i) {
            int here = tree * MOST_STAGES + i;
            if (tree == 0) {
                rooted[here] = 1;
                return;
            }
            long left = rooted[forest.rest[tree] * MOST_STAGES + i];
            rooted[here] = mod.times(left, hanging[forest.last[tree] * MOST_STAGES + i]);
        }

        private void hangUp(int tree, Stages of) {
            int row = tree * MOST_STAGES;
            for (int i = 0; i < of.count; i++) {
                long sum = 0;
                for (int j = 0; j < of.count; j++) {
                    sum = mod.plus(sum, mod.times(of.a(i, j), rooted[row + j]));
                }
                hanging[row + i] = sum;
            }
        }
    }

    /** Reckons the determinant of 1 - z A by the traces of its products (Faddeev, LeVerrier). */
    private static final class Shares {
        private final Modulus mod;
        private final long[] factor = new long[MOST_STAGES * MOST_STAGES];
        private final long[] product = new long[MOST_STAGES * MOST_STAGES];

        Shares(Modulus mod) {
            this.mod = mod;
        }

        int coefficient(Stages of, int k) {
            if (k > of.count) {
                return 0;
            }
            long latest = 1;
            clearFactor();
            for (int power = 1; power <= k; power++) {
                addToDiagonal(of.count, latest);
                multiply(of);
                // power is at most 8 and p a prime from 101 on, so there is such a number
                latest = mod.times(mod.less(0, diagonalSum(of.count)), mod.inverse(power));
                keepProduct();
            }
            return (int) latest;
        }

        private void clearFactor() {
            for (int k = 0; k < factor.length; k++) {
                factor[k] = 0;
            }
        }

        private void addToDiagonal(int s, long v) {
            for (int i = 0; i < s; i++) {
                int at = i * MOST_STAGES + i;
                factor[at] = mod.plus(factor[at], v);
            }
        }

        private void multiply(Stages of) {
            for (int i = 0; i < of.count; i++) {
                for (int j = 0; j < of.count; j++) {
                    long sum = 0;
                    for (int k = 0; k < of.count; k++) {
                        sum = mod.plus(sum, mod.times(of.a(i, k), factor[k * MOST_STAGES + j]));
                    }
                    product[i * MOST_STAGES + j] = sum;
                }
            }
        }

        private long diagonalSum(int s) {
            long sum = 0;
            for (int i = 0; i < s; i++) {
                sum = mod.plus(sum, product[i * MOST_STAGES + i]);
            }
            return sum;
        }

        private void keepProduct() {
            System.arraycopy(product, 0, factor, 0, factor.length);
        }
    }
}
