/** Promises 21 to 27: weights, order, share, rides, alike, count, status. */
public final class JudgedTest {
    private static final Due D = new Due();

    public static void main(String[] args) {
        weight();
        weightByDefinition();
        order();
        share();
        ride();
        rideTellsSums();
        alike();
        count();
        status();
        D.end();
    }

    private static void weight() {
        TreeSteps x = new TreeSteps(1000003);
        Due.whole(x, 0, 2, 1, 2, 3, 4, 5, 6);
        D.due("one knot", x.weight(0, 0), 11);
        D.due("two", x.weight(0, 1), 5 * 3 + 6 * 7);
        D.due("the path of three", x.weight(0, 2), 5 * (3 + 2 * 7) + 6 * (3 * 3 + 4 * 7));
        D.due("the fork of three", x.weight(0, 3), 5 * 9 + 6 * 49);
        D.due("0121", x.weight(0, 6), 5 * 3 * 17 + 6 * 7 * 37);
        D.due("six knots at the root", x.weight(0, 36), 5 * 243 + 6 * 16807);
        D.due("weight(0, 37)", x.weight(0, 37), Due.BAD);
        D.due("weight(0, -1)", x.weight(0, -1), Due.BAD);
        D.due("weight(10, 0)", x.weight(10, 0), Due.BAD);
        D.due("weight(-1, 0)", x.weight(-1, 0), Due.BAD);
        D.due("weight of nothing, no tree", x.weight(1, 37), Due.BAD);
        D.due("status()", x.status(), 0);
        D.due("weight of nothing", x.weight(1, 36), Due.NULL);
        D.due("status()", x.status(), 1);
    }

    /** The sum over all ways to give a stage to each knot, one by one. */
    private static void weightByDefinition() {
        int p = 1999999973;
        TreeSteps x = new TreeSteps(p);
        long[] a = {p - 1, p - 2, 1999999901, 5, 123456789, 987654321, 1, 0, 1333333333};
        long[] b = {p - 1, 1777777777, 77};
        Due.whole(x, 0, 3, a[0], a[1], a[2], a[3], a[4], a[5], a[6], a[7], a[8], b[0], b[1], b[2]);
        for (int tree = 0; tree < 37; tree++) {
            StringBuilder row = new StringBuilder();
            for (int k = 0; k < x.tree(tree, 0); k++) {
                row.append(x.level(tree, k));
            }
            int[] parents = TreesTest.parents(row.toString());
            long sum = 0;
            for (int way = 0; way < Math.pow(3, parents.length); way++) {
                sum = (sum + product(a, b, parents, way, p)) % p;
            }
            D.due("weight(0, " + tree + ")", x.weight(0, tree), sum);
        }
    }

    private static long product(long[] a, long[] b, int[] parents, int way, long p) {
        int[] stage = new int[parents.length];
        for (int k = 0; k < stage.length; k++) {
            stage[k] = way % 3;
            way /= 3;
        }
        long product = b[stage[0]];
        for (int k = 1; k < stage.length; k++) {
            product = product * a[3 * stage[parents[k]] + stage[k]] % p;
        }
        return product;
    }

    private static void dueOrder(TreeSteps x, int place, int order, int misfit) {
        D.due("order(" + place + ", 0)", x.order(place, 0), order);
        D.due("order(" + place + ", 1)", x.order(place, 1), misfit);
    }

    private static void order() {
        TreeSteps x = new TreeSteps(103);
        Due.euler(x, 0);
        Due.midpoint(x, 1);
        Due.radau(x, 2);
        Due.runge(x, 3);
        Due.gauss(x, 4);
        x.scale(5, 3, 2);
        dueOrder(x, 0, 1, 1);
        dueOrder(x, 1, 2, 2);
        dueOrder(x, 2, 3, 4);
        dueOrder(x, 3, 4, 8);
        dueOrder(x, 4, 6, Due.NONE);
        dueOrder(x, 5, 0, 0);
        D.due("gauss is KEEPING", x.kind(4), 3);
        D.due("a weight of gauss", x.weight(4, 17) * 720 % 103, 1);
        Due.fill(x, 0, 1, 0, 1, 1, 2, 0, 1, 0, 1, 1, 1);
        x.table(6, 7, 0, 2);
        dueOrder(x, 6, 2, 2);
        Due.fill(x, 0, 1, 0, 1, 2, 3, 0, 1, 1, 4, 3, 4);
        x.table(6, 7, 0, 2);
        dueOrder(x, 6, 2, 2);
        D.due("it fits the fork", x.weight(6, 3) * 3 % 103, 1);
        D.due("order(0, 2)", x.order(0, 2), Due.BAD);
        D.due("order(0, -1)", x.order(0, -1), Due.BAD);
        D.due("order(10, 0)", x.order(10, 0), Due.BAD);
        D.due("order(-1, 0)", x.order(-1, 0), Due.BAD);
        D.due("order of nothing", x.order(9, 1), Due.NULL);
        D.due("status()", x.status(), 1);
        D.due("order(4, 1)", x.order(4, 1), Due.NONE);
        D.due("NONE is no finding", x.status(), 0);
    }

    private static void share() {
        TreeSteps x = new TreeSteps(1000003);
        Due.whole(x, 0, 2, 1, 2, 3, 4, 5, 6);
        long p = 1000003;
        long[] upper = {1, 11 - 5, (-4 * -2 - -2 * -4)};
        long[] lower = {1, p - 5, p - 2};
        for (int k = 0; k <= 8; k++) {
            D.due("P " + k, x.share(0, 0, k), k > 2 ? 0 : upper[k]);
            D.due("Q " + k, x.share(0, 1, k), k > 2 ? 0 : lower[k]);
        }
        Due.runge(x, 1);
        x.behind(2, 1, 1);
        D.due("P of 8 stages, the last", x.share(2, 0, 8) * 576L % p, 1);
        D.due("Q of 8 stages, the last", x.share(2, 1, 8), 0);
        Due.whole(x, 3, 4, 0, 1, 0, 0, 0, 0, 1, 0, 0, 0, 0, 1, 1, 0, 0, 0, 0, 0, 0, 0);
        D.due("Q of a ring of four", x.share(3, 1, 4), p - 1);
        D.due("P of a ring of four", x.share(3, 0, 4), p - 1);
        D.due("Q of a ring of four", x.share(3, 1, 2), 0);
        D.due("share(0, 2, 0)", x.share(0, 2, 0), Due.BAD);
        D.due("share(0, -1, 0)", x.share(0, -1, 0), Due.BAD);
        D.due("share(0, 0, 9)", x.share(0, 0, 9), Due.BAD);
        D.due("share(0, 0, -1)", x.share(0, 0, -1), Due.BAD);
        D.due("share(10, 0, 0)", x.share(10, 0, 0), Due.BAD);
        D.due("share(-1, 0, 0)", x.share(-1, 0, 0), Due.BAD);
        D.due("share of nothing", x.share(9, 0, 8), Due.NULL);
        D.due("status()", x.status(), 1);
    }

    private static void ride() {
        TreeSteps x = new TreeSteps(1000003);
        Due.whole(x, 0, 2, 1, 2, 3, 4, 5, 6);
        D.due("no step", x.ride(0, 3, 0, 7), 0);
        D.due("one step", x.ride(0, 1, 1, 2), 2 * (5 * 6 + 6 * 14));
        D.due("two steps", x.ride(0, 2, 2, 1), 5 * 9 + 6 * 49 + 5 * 16 + 6 * 64);
        D.due("0 to the power 0", x.ride(0, 0, 1, 0), 0);
        Due.euler(x, 1);
        D.due("0 to the power 0 is 1", x.ride(1, 0, 1, 3), 3);
        D.due("0 to the power 1", x.ride(1, 1, 1, 3), 0);
        D.due("the greatest of all", x.ride(1, 9, 1000, 1000002), rideByHand(1000003));
        TreeSteps great = new TreeSteps(1999999973);
        Due.euler(great, 1);
        D.due("the greatest of all", great.ride(1, 9, 1000, 1999999972), rideByHand(1999999973));
        int[][] bad = {{-1, 0, 0, 0}, {10, 0, 0, 0}, {0, -1, 0, 0}, {0, 10, 0, 0}, {0, 0, -1, 0}, {0, 0, 1001, 0},
            {0, 0, 0, -1}, {0, 0, 0, 1000003}};
        for (int[] b : bad) {
            D.due("ride(" + b[0] + ", " + b[1] + ", ..)", x.ride(b[0], b[1], b[2], b[3]), Due.BAD);
        }
        D.due("BAD ahead of NULL", x.ride(9, 0, 1001, 0), Due.BAD);
        D.due("status()", x.status(), 0);
        D.due("ride of nothing", x.ride(9, 9, 1000, 1), Due.NULL);
        D.due("status()", x.status(), 1);
    }

    /** Steps of -1 by Euler: less the sum of (-i) to the power 9. */
    private static long rideByHand(long p) {
        java.math.BigInteger y = java.math.BigInteger.ZERO;
        for (int i = 0; i < 1000; i++) {
            y = y.subtract(java.math.BigInteger.valueOf(-i).pow(9));
        }
        return y.mod(java.math.BigInteger.valueOf(p)).longValue();
    }

    private static void rideTellsSums() {
        TreeSteps x = new TreeSteps(103);
        Due.gauss(x, 0);
        for (int k = 0; k <= 5; k++) {
            long end = 1;
            for (int i = 0; i <= k; i++) {
                end = end * 77 % 103;
            }
            D.due("x to the power " + (k + 1), (long) x.ride(0, k, 11, 7) * (k + 1) % 103, end);
        }
    }

    private static void alike() {
        TreeSteps x = new TreeSteps(103);
        Due.runge(x, 0);
        Due.gauss(x, 1);
        int[] same = {1, 1, 1, 1, 0, 0};
        for (int n = 1; n <= 6; n++) {
            D.due("alike(0, 1, " + n + ")", x.alike(0, 1, n), same[n - 1]);
            D.due("alike(1, 0, " + n + ")", x.alike(1, 0, n), same[n - 1]);
            D.due("alike(1, 1, " + n + ")", x.alike(1, 1, n), 1);
        }
        x.turn(2, 0, 0);
        x.behind(3, 0, 2);
        Due.whole(x, 4, 1, 0, 0);
        D.due("done and undone is nothing", x.alike(3, 4, 6), 1);
        differsLate(x);
        Due.whole(x, 5, 1, 0, 1);
        D.due("they differ at one knot alone", x.alike(4, 5, 6), 0);
        D.due("they differ at one knot alone", x.alike(5, 4, 1), 0);
        int[][] bad = {{0, 1, 0}, {0, 1, 7}, {-1, 0, 1}, {10, 0, 1}, {0, -1, 1}, {0, 10, 1}, {9, 9, 0}};
        for (int[] b : bad) {
            D.due("alike(" + b[0] + ", " + b[1] + ", " + b[2] + ")", x.alike(b[0], b[1], b[2]), Due.BAD);
        }
        D.due("status()", x.status(), 0);
        D.due("alike(0, 9, 1)", x.alike(0, 9, 1), Due.NULL);
        D.due("status()", x.status(), 1);
        D.due("alike(0, 0, 1)", x.alike(0, 0, 1), 1);
        D.due("alike(9, 0, 1)", x.alike(9, 0, 1), Due.NULL);
    }

    /** Tables of four stages in a chain differ at the path of five alone. */
    private static void differsLate(TreeSteps x) {
        Due.whole(x, 5, 4, 0, 0, 0, 0, 1, 0, 0, 0, 0, 1, 0, 0, 0, 0, 1, 0, 0, 0, 0, 1);
        Due.whole(x, 6, 4, 1, 0, 0, 0, 1, 0, 0, 0, 0, 1, 0, 0, 0, 0, 1, 0, 0, 0, 0, 1);
        D.due("alike(5, 6, 4)", x.alike(5, 6, 4), 1);
        D.due("alike(5, 6, 5)", x.alike(5, 6, 5), 0);
        D.due("the path of five", x.weight(6, 8), 1);
        D.due("the path of five", x.weight(5, 8), 0);
    }

    private static void count() {
        TreeSteps x = new TreeSteps(101);
        Due.euler(x, 0);
        Due.backEuler(x, 1);
        Due.midpoint(x, 2);
        Due.radau(x, 3);
        Due.runge(x, 9);
        x.sheet(0, 0, 0);
        int[] many = {2, 5, 3, 2, 1, 101};
        for (int what = 0; what < 6; what++) {
            D.due("count(" + what + ")", x.count(what), many[what]);
        }
        D.due("count(-1)", x.count(-1), Due.BAD);
        D.due("count(6)", x.count(6), Due.BAD);
        D.due("count(max)", x.count(Integer.MAX_VALUE), Due.BAD);
        x.kind(8);
        x.count(0);
        D.due("count leaves status()", x.status(), 1);
    }

    /** Each call that has no finding puts status() back to 0. */
    private static void status() {
        TreeSteps x = new TreeSteps(101);
        Due.euler(x, 0);
        x.sheet(0, 2, 4);
        x.set(0, 1, 1);
        x.set(0, 3, 1);
        for (int call = 0; call < 16; call++) {
            x.kind(9);
            D.due("status()", x.status(), 1);
            wellCall(x, call);
            D.due("status() behind call " + call, x.status(), 0);
        }
        for (int call = 0; call < 8; call++) {
            x.kind(9);
            otherCall(x, call);
            D.due("status() behind other call " + call, x.status(), 1);
        }
    }

    private static void wellCall(TreeSteps x, int call) {
        switch (call) {
            case 0: x.sheet(1, 0, 3); break;
            case 1: x.set(1, 0, 3); break;
            case 2: x.copy(1, 0, 1, 1, 2); break;
            case 3: x.drop(1); break;
            case 4: x.table(1, 0, 0, 1); break;
            case 5: x.behind(2, 0, 1); break;
            case 6: x.turn(2, 0, 1); break;
            case 7: x.scale(2, 0, 5); break;
            case 8: x.number(0, -1, 0); break;
            case 9: x.kind(0); break;
            case 10: x.as(0, 2); break;
            case 11: x.ask(0, 1); break;
            case 12: x.weight(0, 3); break;
            case 13: x.share(0, 1, 1); break;
            case 14: x.ride(0, 1, 1, 1); break;
            default: x.alike(0, 1, 2); break;
        }
    }

    private static void otherCall(TreeSteps x, int call) {
        switch (call) {
            case 0: x.trees(3); break;
            case 1: x.tree(3, 0); break;
            case 2: x.level(3, 0); break;
            case 3: x.hang(3, 0); break;
            case 4: x.is(0, 0); break;
            case 5: x.trace(0); break;
            case 6: x.clear(8); break;
            default: x.count(5); break;
        }
    }
}
