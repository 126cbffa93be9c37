import java.math.BigInteger;
import java.util.ArrayList;
import java.util.Arrays;
import java.util.List;
import java.util.Map;
import java.util.TreeMap;

/** The document written a second time, as plainly as can be and by other ways than the class where there are some. */
final class Model {
    private static final List<String> ROWS = TreesTest.rows();

    /** What a call is refused with. */
    private static final class Refusal extends RuntimeException {
        private static final long serialVersionUID = 1;
        final int answer;

        Refusal(int answer) {
            this.answer = answer;
        }
    }

    /** A sheet: its lane and its items. */
    private record Sheet(int lane, long[] items) { }

    /** A table: a and b. */
    private record Table(BigInteger[][] a, BigInteger[] b) {
        int s() {
            return b.length;
        }
    }

    private final BigInteger p;
    private final Map<Integer, Sheet> sheets = new TreeMap<>();
    private final Map<Integer, Table> shelf = new TreeMap<>();
    private List<Integer> trace = new ArrayList<>();
    private int status = 0;

    Model(int p) {
        boolean fits = p >= 101 && p <= 2000000000 && BigInteger.valueOf(p).isProbablePrime(50);
        this.p = BigInteger.valueOf(fits ? p : 998244353);
    }

    /** The answer of a call by its name. */
    long call(String name, long... v) {
        int[] n = new int[v.length];
        for (int i = 0; i < v.length; i++) {
            n[i] = (int) v[i];
        }
        boolean counts = !List.of("trees", "tree", "level", "hang", "clear", "is", "trace", "count", "status").contains(name);
        try {
            long answer = name.equals("set") ? set(n[0], n[1], v[2]) : answer(name, n);
            status = counts ? 0 : status;
            return answer;
        } catch (Refusal refusal) {
            if (refusal.answer <= -1000011) {
                status = -1000010 - refusal.answer;
            }
            return refusal.answer;
        }
    }

    private long answer(String name, int[] n) {
        switch (name) {
            case "sheet": return sheet(n[0], n[1], n[2]);
            case "copy": return copy(n[0], n[1], n[2], n[3], n[4]);
            case "drop": bad(n[0], 0, 7); return sheetAt(n[0], true).items.length;
            case "trees": bad(n[0], 1, 6); return ROWS.stream().filter(r -> r.length() == n[0]).count();
            case "level": return level(n[0], n[1]);
            case "table": return table(n[0], n[1], n[2], n[3]);
            case "behind": return behind(n[0], n[1], n[2]);
            case "turn": return turn(n[0], n[1], n[2]);
            case "scale": return scale(n[0], n[1], n[2]);
            case "clear": bad(n[0], 0, 9); return shelf.remove(n[0]) == null ? 0 : 1;
            case "number": return number(n[0], n[1], n[2]);
            case "kind": bad(n[0], 0, 9); return kind(at(n[0]));
            case "is": bad(n[0], 0, 9); bad(n[1], 0, 3); return shelf.containsKey(n[0]) && is(at(n[0]), n[1]) ? 1 : 0;
            case "as": return as(n[0], n[1]);
            case "ask": return ask(n[0], n[1]);
            case "trace": return n[0] < 0 || n[0] >= trace.size() ? Due.NONE : trace.get(n[0]);
            case "weight": bad(n[0], 0, 9); bad(n[1], 0, 36); return weight(at(n[0]), n[1]).longValue();
            case "order": return order(n[0], n[1]);
            case "share": return share(n[0], n[1], n[2]);
            case "ride": return ride(n[0], n[1], n[2], n[3]);
            case "alike": return alike(n[0], n[1], n[2]);
            case "count": return count(n[0]);
            case "status": return status;
            default: throw new IllegalStateException(name);
        }
    }

    private static void bad(int v, int least, int greatest) {
        refuse(v < least || v > greatest, Due.BAD);
    }

    private static void refuse(boolean when, int answer) {
        if (when) {
            throw new Refusal(answer);
        }
    }

    // ---- sheets

    private Sheet sheetAt(int sheet, boolean remove) {
        refuse(!sheets.containsKey(sheet), Due.NULL);
        return remove ? sheets.remove(sheet) : sheets.get(sheet);
    }

    private long sheet(int sheet, int lane, int n) {
        bad(sheet, 0, 7);
        bad(lane, 0, 2);
        refuse(n > 80, Due.BAD);
        refuse(n < 0, Due.SIZE);
        sheets.put(sheet, new Sheet(lane, new long[n]));
        return n;
    }

    private long set(int sheet, int i, long v) {
        bad(sheet, 0, 7);
        Sheet to = sheetAt(sheet, false);
        refuse(i < 0 || i >= to.items.length, Due.PLACE);
        int spare = new int[] {56, 32, 0}[to.lane];
        to.items[i] = v << spare >> spare;
        return to.items[i];
    }

    private long copy(int a, int i, int b, int j, int n) {
        bad(a, 0, 7);
        bad(b, 0, 7);
        Sheet from = sheetAt(a, false);
        Sheet to = sheetAt(b, false);
        refuse(from.lane != to.lane, Due.STORE);
        refuse(i < 0 || j < 0 || n < 0, Due.PLACE);
        refuse((long) i + n > from.items.length || (long) j + n > to.items.length, Due.PLACE);
        long[] were = from.items.clone();
        for (int k = 0; k < n; k++) {
            to.items[j + k] = were[i + k];
        }
        return n;
    }

    private static long level(int tree, int k) {
        bad(tree, 0, 36);
        refuse(k < 0 || k >= ROWS.get(tree).length(), Due.NONE);
        return ROWS.get(tree).charAt(k) - '0';
    }

    // ---- tables

    private Table at(int place) {
        refuse(!shelf.containsKey(place), Due.NULL);
        return shelf.get(place);
    }

    private BigInteger of(long v) {
        return BigInteger.valueOf(v).mod(p);
    }

    private static Table blank(int s) {
        BigInteger[][] a = new BigInteger[s][s];
        for (BigInteger[] row : a) {
            Arrays.fill(row, BigInteger.ZERO);
        }
        return new Table(a, new BigInteger[s]);
    }

    private int put(int place, Table table) {
        shelf.put(place, table);
        return kind(table);
    }

    private long table(int place, int sheet, int i, int s) {
        bad(place, 0, 9);
        bad(sheet, 0, 7);
        bad(s, 1, 4);
        Sheet from = sheetAt(sheet, false);
        refuse(i < 0 || (long) i + 2 * s * (s + 1) > from.items.length, Due.PLACE);
        Table made = blank(s);
        for (int k = 0; k < s * (s + 1); k++) {
            BigInteger lower = of(from.items[i + 2 * k + 1]);
            refuse(lower.signum() == 0, Due.BAD);
            BigInteger v = of(from.items[i + 2 * k]).multiply(lower.modInverse(p)).mod(p);
            (k / s < s ? made.a[k / s] : made.b)[k % s] = v;
        }
        return put(place, made);
    }

    private long behind(int to, int a, int b) {
        bad(to, 0, 9);
        bad(a, 0, 9);
        bad(b, 0, 9);
        Table x = at(a);
        Table y = at(b);
        int s = x.s();
        refuse(s + y.s() > 8, Due.FULL);
        Table made = blank(s + y.s());
        for (int j = 0; j < made.s(); j++) {
            made.b[j] = j < s ? x.b[j] : y.b[j - s];
            for (int i = 0; i < made.s(); i++) {
                if (i < s && j < s) {
                    made.a[i][j] = x.a[i][j];
                } else if (j < s) {
                    made.a[i][j] = x.b[j];
                } else if (i >= s) {
                    made.a[i][j] = y.a[i - s][j - s];
                }
            }
        }
        return put(to, made);
    }

    private long turn(int to, int place, int how) {
        bad(to, 0, 9);
        bad(place, 0, 9);
        bad(how, 0, 1);
        Table x = at(place);
        int s = x.s();
        Table made = blank(s);
        for (int j = 0; j < s; j++) {
            made.b[j] = how == 0 ? x.b[j].negate().mod(p) : x.b[s - 1 - j];
            for (int i = 0; i < s; i++) {
                made.a[i][j] = how == 0 ? x.a[i][j].subtract(x.b[j]).mod(p)
                        : x.b[s - 1 - j].subtract(x.a[s - 1 - i][s - 1 - j]).mod(p);
            }
        }
        return put(to, made);
    }

    private long scale(int to, int place, int c) {
        bad(to, 0, 9);
        bad(place, 0, 9);
        bad(c, 0, p.intValue() - 1);
        Table x = at(place);
        Table made = blank(x.s());
        for (int j = 0; j < x.s(); j++) {
            made.b[j] = x.b[j].multiply(of(c)).mod(p);
            for (int i = 0; i < x.s(); i++) {
                made.a[i][j] = x.a[i][j].multiply(of(c)).mod(p);
            }
        }
        return put(to, made);
    }

    private long number(int place, int i, int j) {
        bad(place, 0, 9);
        Table x = at(place);
        if (i == -1) {
            return x.s();
        }
        bad(i, 0, x.s());
        bad(j, 0, x.s() - 1);
        return (i == x.s() ? x.b[j] : x.a[i][j]).longValue();
    }

    private int kind(Table x) {
        boolean lower = true;
        boolean plain = true;
        boolean keeping = true;
        for (int i = 0; i < x.s(); i++) {
            for (int j = 0; j < x.s(); j++) {
                boolean zero = x.a[i][j].signum() == 0;
                lower &= zero || j <= i;
                plain &= zero || j < i;
                BigInteger sum = x.b[i].multiply(x.a[i][j]).add(x.b[j].multiply(x.a[j][i]));
                keeping &= sum.subtract(x.b[i].multiply(x.b[j])).mod(p).signum() == 0;
            }
        }
        return plain ? 2 : keeping ? 3 : lower ? 1 : 0;
    }

    private boolean is(Table x, int kind) {
        int told = kind(x);
        return kind == told || kind == 0 || kind == 1 && told == 2;
    }

    private long as(int place, int kind) {
        bad(place, 0, 9);
        bad(kind, 0, 3);
        Table x = at(place);
        refuse(!is(x, kind), Due.KIND);
        return x.s();
    }

    private long ask(int place, int what) {
        bad(place, 0, 9);
        bad(what, 0, 1);
        trace = new ArrayList<>();
        Table x = at(place);
        int s = x.s();
        int order = order(x);
        int[] bodies;
        int answer;
        switch (2 * kind(x) + what) {
            case 0: bodies = new int[] {10}; answer = s; break;
            case 1: bodies = new int[] {20}; answer = order; break;
            case 2: bodies = new int[] {11, 10}; answer = s + 100; break;
            case 3: bodies = new int[] {21, 20, 11, 10}; answer = order + s + 100; break;
            case 4: bodies = new int[] {12, 11, 10}; answer = 2 * s + 200; break;
            case 5: bodies = new int[] {21, 20, 12, 11, 10}; answer = order + 2 * s + 200; break;
            case 6: bodies = new int[] {13, 10, 22, 20}; answer = s + order + 10; break;
            default: bodies = new int[] {22, 20}; answer = order + 10; break;
        }
        for (int body : bodies) {
            trace.add(body);
        }
        return answer;
    }

    // ---- judged

    /** From the last knot to the root: the sums for a knot's stage, times what hangs there. */
    private BigInteger weight(Table x, int tree) {
        int[] parents = TreesTest.parents(ROWS.get(tree));
        int s = x.s();
        BigInteger[][] at = new BigInteger[parents.length][s];
        for (BigInteger[] row : at) {
            Arrays.fill(row, BigInteger.ONE);
        }
        for (int k = parents.length - 1; k > 0; k--) {
            for (int i = 0; i < s; i++) {
                BigInteger sum = BigInteger.ZERO;
                for (int j = 0; j < s; j++) {
                    sum = sum.add(x.a[i][j].multiply(at[k][j]));
                }
                at[parents[k]][i] = at[parents[k]][i].multiply(sum).mod(p);
            }
        }
        BigInteger sum = BigInteger.ZERO;
        for (int i = 0; i < s; i++) {
            sum = sum.add(x.b[i].multiply(at[0][i]));
        }
        return sum.mod(p);
    }

    private boolean fits(Table x, int tree) {
        int density = TreesTest.density(TreesTest.parents(ROWS.get(tree)));
        return weight(x, tree).multiply(BigInteger.valueOf(density)).mod(p).equals(BigInteger.ONE);
    }

    private int order(Table x) {
        for (int tree = 0; tree < 37; tree++) {
            if (!fits(x, tree)) {
                return ROWS.get(tree).length() - 1;
            }
        }
        return 6;
    }

    private long order(int place, int what) {
        bad(place, 0, 9);
        bad(what, 0, 1);
        Table x = at(place);
        if (what == 0) {
            return order(x);
        }
        int tree = 0;
        while (tree < 37 && fits(x, tree)) {
            tree++;
        }
        return tree == 37 ? Due.NONE : tree;
    }

    /** The determinant row by row: for each set of columns that are used, the polynomial so far. */
    private long share(int place, int which, int k) {
        bad(place, 0, 9);
        bad(which, 0, 1);
        bad(k, 0, 8);
        Table x = at(place);
        int s = x.s();
        BigInteger[][] sums = new BigInteger[1 << s][10];
        for (BigInteger[] row : sums) {
            Arrays.fill(row, BigInteger.ZERO);
        }
        sums[0][0] = BigInteger.ONE;
        for (int used = 0; used < 1 << s; used++) {
            int i = Integer.bitCount(used);
            for (int j = 0; j < s; j++) {
                if ((used >> j & 1) == 0) {
                    BigInteger line = x.a[i][j].negate().add(which == 0 ? x.b[j] : BigInteger.ZERO);
                    boolean odd = Integer.bitCount(used >> j) % 2 == 1;
                    addTimes(sums[used | 1 << j], sums[used], i == j, line, odd);
                }
            }
        }
        return sums[(1 << s) - 1][k].mod(p).longValue();
    }

    private static void addTimes(BigInteger[] to, BigInteger[] from, boolean one, BigInteger line, boolean odd) {
        for (int k = 0; k < 9; k++) {
            BigInteger term = one ? from[k] : BigInteger.ZERO;
            term = term.add(k > 0 ? from[k - 1].multiply(line) : BigInteger.ZERO);
            to[k] = to[k].add(odd ? term.negate() : term);
        }
    }

    private long ride(int place, int k, int n, int h) {
        bad(place, 0, 9);
        bad(k, 0, 9);
        bad(n, 0, 1000);
        bad(h, 0, p.intValue() - 1);
        Table t = at(place);
        BigInteger step = BigInteger.valueOf(h);
        BigInteger y = BigInteger.ZERO;
        for (int m = 0; m < n; m++) {
            for (int j = 0; j < t.s(); j++) {
                BigInteger c = BigInteger.valueOf(m);
                for (int i = 0; i < t.s(); i++) {
                    c = c.add(t.a[j][i]);
                }
                y = y.add(step.multiply(t.b[j]).multiply(c.multiply(step).mod(p).pow(k))).mod(p);
            }
        }
        return y.longValue();
    }

    private long alike(int a, int b, int n) {
        bad(a, 0, 9);
        bad(b, 0, 9);
        bad(n, 1, 6);
        Table x = at(a);
        Table y = at(b);
        for (int tree = 0; tree < 37; tree++) {
            if (ROWS.get(tree).length() <= n && !weight(x, tree).equals(weight(y, tree))) {
                return 0;
            }
        }
        return 1;
    }

    private long count(int what) {
        bad(what, 0, 5);
        switch (what) {
            case 0: return sheets.size();
            case 5: return p.longValue();
            case 1: return shelf.size();
            default: return shelf.values().stream().filter(x -> is(x, what - 1)).count();
        }
    }
}
