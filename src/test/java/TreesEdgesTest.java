/** The edges that promises 6 to 9 name. */
public final class TreesEdgesTest {
    private static final Due D = new Due();
    private static final int[] FIRST = {0, 1, 2, 4, 8, 17, 37};

    public static void main(String[] args) {
        trees();
        treesBad();
        tree();
        treeBad();
        level();
        levelNone();
        levelBad();
        hangWithin();
        hangNone();
        hangBad();
        D.end();
    }

    private static Run run() {
        return new Run(D, 101);
    }

    private static void trees() {
        D.about("6: How many TREES of n KNOTS (1 to 6) there are");
        Run x = run();
        int sum = 0;
        for (int n = 1; n <= 6; n++) {
            x.due(FIRST[n] - FIRST[n - 1], "trees", n);
            sum += x.call("trees", n);
        }
        D.due("all of them", sum, 37);
    }

    private static void treesBad() {
        D.about("6: BAD");
        Run x = run();
        for (int n : new int[] {0, 7, -1, 8, Due.LEAST, Due.MOST}) {
            x.dueStatus(Due.BAD, 0, "trees", n);
        }
    }

    private static void tree() {
        D.about("7: Of a TREE (0 to 36): KNOTS, SYMMETRY, DENSITY, how many TREES hang at its root");
        Run x = run();
        long[][] rows = {{0, 1, 1, 1, 0}, {1, 2, 1, 2, 1}, {2, 3, 1, 6, 1}, {3, 3, 2, 3, 2}, {17, 6, 1, 720, 1},
            {35, 6, 6, 12, 4}, {36, 6, 120, 6, 5}};
        for (long[] row : rows) {
            for (int what = 0; what < 4; what++) {
                x.due(row[what + 1], "tree", row[0], what);
            }
        }
    }

    private static void treeBad() {
        D.about("7: BAD");
        Run x = run();
        for (int tree : new int[] {-1, 37, Due.LEAST, Due.MOST}) {
            for (int what = -1; what <= 4; what++) {
                x.dueStatus(Due.BAD, 0, "tree", tree, what);
            }
        }
        for (int what : new int[] {-1, 4, Due.LEAST, Due.MOST}) {
            x.due(Due.BAD, "tree", 0, what);
            x.due(Due.BAD, "tree", 36, what);
        }
    }

    private static void level() {
        D.about("8: LEVEL of place k of a TREE");
        Run x = run();
        for (int n = 1; n <= 6; n++) {
            for (int k = 0; k < n; k++) {
                x.due(k, "level", FIRST[n - 1], k);
                x.due(k == 0 ? 0 : 1, "level", FIRST[n] - 1, k);
            }
        }
    }

    private static void levelNone() {
        D.about("8: NONE: there are not so many (k below 0, too)");
        Run x = run();
        for (int n = 1; n <= 6; n++) {
            for (int tree : new int[] {FIRST[n - 1], FIRST[n] - 1}) {
                for (int k : new int[] {n, n + 1, 6, -1, Due.LEAST, Due.MOST}) {
                    x.due(Due.NONE, "level", tree, k);
                }
                x.due(n == 1 ? 0 : n == 2 ? 1 : tree == FIRST[n - 1] ? n - 1 : 1, "level", tree, n - 1);
            }
        }
        x.due(0, "status");
    }

    private static void levelBad() {
        D.about("8: BAD: TREE");
        Run x = run();
        for (int tree : new int[] {-1, 37, Due.LEAST, Due.MOST}) {
            x.due(Due.BAD, "level", tree, 0);
            D.about("8: BAD ahead of NONE");
            x.due(Due.BAD, "level", tree, -1);
            x.due(Due.BAD, "level", tree, 6);
        }
    }

    private static void hangWithin() {
        D.about("9: The TREE whose root has what hangs at a's root, and b");
        Run x = run();
        x.due(1, "hang", 0, 0);
        for (int n = 1; n <= 5; n++) {
            D.about("9: a path at one KNOT, a KNOT at a bush: 6 KNOTS at most");
            x.due(FIRST[n], "hang", 0, FIRST[n - 1]);
            x.due(FIRST[n + 1] - 1, "hang", FIRST[n] - 1, 0);
        }
        D.about("9: the same TREE, whatever hangs first");
        x.due(6, "hang", 1, 1);
        x.due(6, "hang", 2, 0);
        D.about("9: 6 KNOTS of 3 and 3, 2 and 4, 4 and 2");
        x.due(28, "hang", 2, 2);
        x.due(33, "hang", 3, 3);
        x.due(29, "hang", 3, 2);
        x.due(32, "hang", 2, 3);
        x.due(21, "hang", 1, 4);
        x.due(28, "hang", 4, 1);
    }

    private static void hangNone() {
        D.about("9: NONE: it has more than 6 KNOTS");
        Run x = run();
        int[] knots = {1, 2, 3, 3, 4, 5, 5, 6, 6};
        int[] trees = {0, 1, 2, 3, 7, 8, 16, 17, 36};
        for (int a = 0; a < trees.length; a++) {
            for (int b = 0; b < trees.length; b++) {
                boolean within = knots[a] + knots[b] <= 6;
                long got = x.call("hang", trees[a], trees[b]);
                D.due("hang(" + trees[a] + ", " + trees[b] + ") is NONE", got == Due.NONE ? 1 : 0, within ? 0 : 1);
                if (within) {
                    x.due(knots[a] + knots[b], "tree", got, 0);
                }
            }
        }
        x.due(0, "status");
    }

    private static void hangBad() {
        D.about("9: BAD: TREES");
        Run x = run();
        for (int tree : new int[] {-1, 37, Due.LEAST, Due.MOST}) {
            x.due(Due.BAD, "hang", tree, 0);
            x.due(Due.BAD, "hang", 0, tree);
            x.due(Due.BAD, "hang", tree, tree);
            D.about("9: BAD ahead of NONE");
            x.due(Due.BAD, "hang", tree, 36);
            x.due(Due.BAD, "hang", 36, tree);
        }
    }
}
