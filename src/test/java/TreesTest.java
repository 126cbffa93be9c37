import java.util.ArrayList;
import java.util.Collections;
import java.util.List;
import java.util.TreeSet;

/** Promises 6 to 9, against trees that are found by trying all ways to hang knots. */
public final class TreesTest {
    private static final Due D = new Due();
    private static final List<String> ROWS = rows();

    public static void main(String[] args) {
        trees();
        tree();
        level();
        hang();
        D.end();
    }

    private static TreeSteps fresh() {
        return new TreeSteps(101);
    }

    private static void trees() {
        TreeSteps x = fresh();
        int[] many = {1, 1, 2, 4, 9, 20};
        for (int n = 1; n <= 6; n++) {
            D.due("trees(" + n + ")", x.trees(n), many[n - 1]);
        }
        for (int n : new int[] {0, 7, -1, Integer.MAX_VALUE, Integer.MIN_VALUE}) {
            D.due("trees(" + n + ")", x.trees(n), Due.BAD);
        }
    }

    private static void tree() {
        TreeSteps x = fresh();
        D.due("trees in all", ROWS.size(), 37);
        for (int t = 0; t < 37; t++) {
            int[] parents = parents(ROWS.get(t));
            D.due("knots of " + t, x.tree(t, 0), parents.length);
            D.due("symmetry of " + t, x.tree(t, 1), symmetry(parents));
            D.due("density of " + t, x.tree(t, 2), density(parents));
            D.due("branches of " + t, x.tree(t, 3), branches(parents));
        }
        int[][] bad = {{-1, 0}, {37, 0}, {0, 4}, {0, -1}, {Integer.MAX_VALUE, 0}, {0, Integer.MIN_VALUE}};
        for (int[] b : bad) {
            D.due("tree(" + b[0] + ", " + b[1] + ")", x.tree(b[0], b[1]), Due.BAD);
        }
    }

    private static void level() {
        TreeSteps x = fresh();
        for (int t = 0; t < 37; t++) {
            String row = ROWS.get(t);
            for (int k = 0; k < row.length(); k++) {
                D.due("level(" + t + ", " + k + ")", x.level(t, k), row.charAt(k) - '0');
            }
            D.due("level behind the last", x.level(t, row.length()), Due.NONE);
            D.due("level(t, -1)", x.level(t, -1), Due.NONE);
            D.due("level(t, max)", x.level(t, Integer.MAX_VALUE), Due.NONE);
        }
        D.due("level(37, 9)", x.level(37, 9), Due.BAD);
        D.due("level(-1, -1)", x.level(-1, -1), Due.BAD);
    }

    private static void hang() {
        for (int a = 0; a < 37; a++) {
            TreeSteps x = fresh();
            for (int b = 0; b < 37; b++) {
                StringBuilder row = new StringBuilder(ROWS.get(a));
                for (char c : ROWS.get(b).toCharArray()) {
                    row.append((char) (c + 1));
                }
                int want = row.length() > 6 ? Due.NONE : ROWS.indexOf(greatest(parents(row.toString()), 0, 0));
                D.due("hang(" + a + ", " + b + ")", x.hang(a, b), want);
            }
        }
        TreeSteps x = fresh();
        D.due("hang(-1, 0)", x.hang(-1, 0), Due.BAD);
        D.due("hang(0, -1)", x.hang(0, -1), Due.BAD);
        D.due("hang(37, 36)", x.hang(37, 36), Due.BAD);
        D.due("hang(36, 37)", x.hang(36, 37), Due.BAD);
    }

    /** The greatest rows of all trees, in the document's order. */
    static List<String> rows() {
        List<String> rows = new ArrayList<>();
        for (int n = 1; n <= 6; n++) {
            TreeSet<String> found = new TreeSet<>(Collections.reverseOrder());
            hangAll(new int[n], 1, found);
            rows.addAll(found);
        }
        return rows;
    }

    private static void hangAll(int[] parents, int next, TreeSet<String> found) {
        if (next == parents.length) {
            found.add(greatest(parents, 0, 0));
            return;
        }
        for (int parent = 0; parent < next; parent++) {
            parents[next] = parent;
            hangAll(parents, next + 1, found);
        }
    }

    /** The greatest row of levels of what hangs at a knot: the best of all orders, tried one by one. */
    static String greatest(int[] parents, int knot, int level) {
        List<String> parts = new ArrayList<>();
        for (int k = 1; k < parents.length; k++) {
            if (parents[k] == knot) {
                parts.add(greatest(parents, k, level + 1));
            }
        }
        return level + bestOrder(parts);
    }

    private static String bestOrder(List<String> parts) {
        String best = "";
        for (int i = 0; i < parts.size(); i++) {
            List<String> others = new ArrayList<>(parts);
            String row = others.remove(i) + bestOrder(others);
            best = row.compareTo(best) > 0 ? row : best;
        }
        return best;
    }

    static int[] parents(String row) {
        int[] parents = new int[row.length()];
        for (int k = 1; k < parents.length; k++) {
            for (int before = 0; before < k; before++) {
                if (row.charAt(before) == row.charAt(k) - 1) {
                    parents[k] = before;
                }
            }
        }
        return parents;
    }

    private static int symmetry(int[] parents) {
        return ways(parents, new int[parents.length], 0, 0);
    }

    private static int ways(int[] parents, int[] image, int next, int used) {
        if (next == parents.length) {
            return 1;
        }
        int sum = 0;
        for (int to = 0; to < parents.length; to++) {
            boolean fits = next == 0 ? to == 0 : to != 0 && parents[to] == image[parents[next]];
            if (fits && (used >> to & 1) == 0) {
                image[next] = to;
                sum += ways(parents, image, next + 1, used | 1 << to);
            }
        }
        return sum;
    }

    static int density(int[] parents) {
        int product = 1;
        int[] size = new int[parents.length];
        for (int k = parents.length - 1; k >= 0; k--) {
            size[k]++;
            product *= size[k];
            if (k > 0) {
                size[parents[k]] += size[k];
            }
        }
        return product;
    }

    private static int branches(int[] parents) {
        int many = 0;
        for (int k = 1; k < parents.length; k++) {
            many += parents[k] == 0 ? 1 : 0;
        }
        return many;
    }
}
