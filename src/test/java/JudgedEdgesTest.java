/** The edges that promises 21 to 27 name. */
public final class JudgedEdgesTest {
    private static final Due D = new Due();
    private static final int[] NO_PLACES = {-1, 10, Due.LEAST, Due.MOST};

    public static void main(String[] args) {
        weight();
        weightRefused();
        order();
        orderNone();
        orderRefused();
        share();
        shareAboveS();
        shareRefused();
        ride();
        rideRefused();
        alike();
        alikeLast();
        alikeRefused();
        countNone();
        countAll();
        countKinds();
        countBad();
        statusAtFirst();
        statusOfFindings();
        statusIsLeft();
        statusIsCleared();
        D.end();
    }

    private static Run run() {
        return new Run(D, 101);
    }

    /** Modulo 163: tables of order 0 to 6 at places 0 to 6. */
    private static Run orders() {
        Run x = new Run(D, 163);
        long[][] rows = {Due.byOne(0, 2), Due.EULER, Due.MIDPOINT, Due.RADAU, Due.RUNGE, Due.radauFive(13), Due.gauss(34)};
        for (int n = 0; n <= 6; n++) {
            x.table(n, rows[n]);
        }
        return x;
    }

    // ---- promises 21 and 22

    private static void weight() {
        D.about("21: WEIGHT of a TABLE on a TREE, the first and the last");
        Run x = run();
        x.whole(0, 2, 3);
        x.dueStatus(3, 0, "weight", 0, 0);
        x.due(6, "weight", 0, 1);
        x.due(96, "weight", 0, 17);
        x.due(96, "weight", 0, 36);
        Run great = new Run(D, 1999999973);
        D.about("21: of the greatest numbers");
        great.whole(0, 1999999972, 1999999972);
        great.due(1999999972, "weight", 0, 0);
        great.due(1, "weight", 0, 1);
        great.due(1, "weight", 0, 36);
    }

    private static void weightRefused() {
        D.about("21: BAD");
        Run x = run();
        x.whole(0, 2, 3);
        for (int place : NO_PLACES) {
            x.dueStatus(Due.BAD, 0, "weight", place, 0);
        }
        for (int tree : new int[] {-1, 37, Due.LEAST, Due.MOST}) {
            x.dueStatus(Due.BAD, 0, "weight", 0, tree);
            D.about("21: BAD ahead of NULL");
            x.dueStatus(Due.BAD, 0, "weight", 9, tree);
        }
        D.about("21: NULL");
        x.dueStatus(Due.NULL, 1, "weight", 9, 0);
        x.dueStatus(Due.NULL, 1, "weight", 9, 36);
    }

    private static void order() {
        D.about("22: ORDER (what = 0); the first TREE that it does not FIT (1)");
        Run x = orders();
        int[] misfits = {0, 1, 2, 4, 8, 17};
        for (int n = 0; n < 6; n++) {
            x.dueStatus(n, 0, "order", n, 0);
            x.dueStatus(misfits[n], 0, "order", n, 1);
        }
        D.about("22: it may FIT those behind");
        x.table(0, 0, 1, 0, 1, 2, 3, 0, 1, 1, 4, 3, 4);
        x.due(2, "order", 0, 1);
        D.due("the fork fits", x.call("weight", 0, 3) * 3 % 163, 1);
    }

    private static void orderNone() {
        D.about("22: NONE: it FITS all");
        Run x = orders();
        x.dueStatus(Due.NONE, 0, "order", 6, 1);
        x.dueStatus(6, 0, "order", 6, 0);
        x.call("turn", 7, 6, 1);
        x.due(Due.NONE, "order", 7, 1);
        D.about("22: two half steps FIT all, too");
        x.call("scale", 8, 6, 82);
        x.due(0, "order", 8, 1);
        x.call("behind", 8, 8, 8);
        x.due(Due.NONE, "order", 8, 1);
    }

    private static void orderRefused() {
        D.about("22: BAD");
        Run x = run();
        x.table(0, Due.EULER);
        for (int place : NO_PLACES) {
            x.dueStatus(Due.BAD, 0, "order", place, 0);
        }
        for (int what : new int[] {-1, 2, Due.LEAST, Due.MOST}) {
            x.dueStatus(Due.BAD, 0, "order", 0, what);
            D.about("22: BAD ahead of NULL");
            x.dueStatus(Due.BAD, 0, "order", 9, what);
        }
        D.about("22: NULL");
        x.dueStatus(Due.NULL, 1, "order", 9, 0);
        x.dueStatus(Due.NULL, 1, "order", 9, 1);
    }

    // ---- promise 23

    private static void share() {
        D.about("23: The number of z to the power k (0 to 8) of P (which = 0), Q (1)");
        Run x = run();
        x.table(0, Due.MIDPOINT);
        x.dueStatus(1, 0, "share", 0, 0, 0);
        x.due(51, "share", 0, 0, 1);
        x.due(1, "share", 0, 1, 0);
        x.due(50, "share", 0, 1, 1);
        x.call("behind", 1, 0, 0);
        x.call("behind", 2, 1, 1);
        x.call("behind", 3, 2, 2);
        // (1 + z / 2) to the power 8 by (1 - z / 2) to the power 8; 256 is 54 modulo 101
        D.due("P, the last", x.call("share", 3, 0, 8) * 54 % 101, 1);
        D.due("Q, the last", x.call("share", 3, 1, 8) * 54 % 101, 1);
        D.due("P, the one ahead", x.call("share", 3, 0, 7) * 16 % 101, 1);
        D.due("Q, the one ahead", x.call("share", 3, 1, 7) * 16 % 101, 100);
    }

    private static void shareAboveS() {
        D.about("23: 0 above s");
        Run x = run();
        x.whole(0, 1, 3);
        x.call("scale", 1, 0, 1);
        for (int s = 1; s <= 8; s++) {
            for (int k = s + 1; k <= 8; k++) {
                x.dueStatus(0, 0, "share", 1, 0, k);
                x.dueStatus(0, 0, "share", 1, 1, k);
            }
            // (1 + 2 z) and (1 - z) to the power s
            x.due(Math.floorMod(1 << s, 101), "share", 1, 0, s);
            x.due(s % 2 == 0 ? 1 : 100, "share", 1, 1, s);
            x.call("behind", 1, 1, 0);
        }
    }

    private static void shareRefused() {
        D.about("23: BAD");
        Run x = run();
        x.table(0, Due.EULER);
        for (int place : NO_PLACES) {
            x.dueStatus(Due.BAD, 0, "share", place, 0, 0);
        }
        for (int which : new int[] {-1, 2, Due.LEAST, Due.MOST}) {
            x.dueStatus(Due.BAD, 0, "share", 0, which, 0);
            x.dueStatus(Due.BAD, 0, "share", 9, which, 0);
        }
        for (int k : new int[] {-1, 9, Due.LEAST, Due.MOST}) {
            x.dueStatus(Due.BAD, 0, "share", 0, 0, k);
            x.dueStatus(Due.BAD, 0, "share", 0, 1, k);
            x.dueStatus(Due.BAD, 0, "share", 9, 1, k);
        }
        D.about("23: NULL");
        x.dueStatus(Due.NULL, 1, "share", 9, 0, 0);
        x.dueStatus(Due.NULL, 1, "share", 9, 1, 8);
    }

    // ---- promise 24

    private static void ride() {
        D.about("24: A RIDE: k, n (0 to 1000) steps of h (0 to p - 1)");
        Run x = run();
        x.table(0, Due.EULER);
        x.dueStatus(0, 0, "ride", 0, 0, 0, 0);
        x.due(0, "ride", 0, 9, 0, 100);
        x.due(1, "ride", 0, 0, 1, 1);
        x.due(91, "ride", 0, 0, 1000, 1);
        x.due(90, "ride", 0, 0, 999, 1);
        x.due(0, "ride", 0, 0, 1000, 0);
        x.due(10, "ride", 0, 0, 1000, 100);
        long nine = 0;
        for (long i = 0; i < 1000; i++) {
            long power = 1;
            for (int k = 0; k < 9; k++) {
                power = power * i % 101;
            }
            nine = (nine + power) % 101;
        }
        x.due(nine, "ride", 0, 9, 1000, 1);
        D.about("24: of 8 stages, modulo the greatest prime");
        Run great = new Run(D, 1999999973);
        great.whole(0, 0, 1999999972);
        great.call("behind", 0, 0, 0);
        great.call("behind", 0, 0, 0);
        great.call("behind", 0, 0, 0);
        // c(j) is -j, b(j) is -1, h is -1: each step of 1000 adds the sum of (j - m) to the power k
        java.math.BigInteger y = java.math.BigInteger.ZERO;
        for (int m = 0; m < 1000; m++) {
            for (int j = 0; j < 8; j++) {
                y = y.add(java.math.BigInteger.valueOf(j - m).pow(9));
            }
        }
        great.due(y.mod(java.math.BigInteger.valueOf(1999999973)).longValue(), "ride", 0, 9, 1000, 1999999972);
    }

    private static void rideRefused() {
        D.about("24: BAD");
        Run x = run();
        x.table(0, Due.EULER);
        for (int place : NO_PLACES) {
            x.dueStatus(Due.BAD, 0, "ride", place, 0, 0, 0);
        }
        for (int k : new int[] {-1, 10, Due.LEAST, Due.MOST}) {
            x.dueStatus(Due.BAD, 0, "ride", 0, k, 1, 1);
            x.due(Due.BAD, "ride", 9, k, 1, 1);
        }
        for (int n : new int[] {-1, 1001, Due.LEAST, Due.MOST}) {
            x.dueStatus(Due.BAD, 0, "ride", 0, 1, n, 1);
            x.due(Due.BAD, "ride", 9, 1, n, 1);
        }
        for (int h : new int[] {-1, 101, 102, Due.LEAST, Due.MOST}) {
            x.dueStatus(Due.BAD, 0, "ride", 0, 1, 1, h);
            x.due(Due.BAD, "ride", 9, 1, 1, h);
        }
        x.due(0, "status");
        D.about("24: NULL");
        x.dueStatus(Due.NULL, 1, "ride", 9, 0, 0, 0);
        x.dueStatus(Due.NULL, 1, "ride", 9, 9, 1000, 100);
        D.about("24: p is the one that it goes by");
        Run usual = new Run(D, 4);
        usual.table(0, Due.EULER);
        usual.due(998244352, "ride", 0, 0, 1, 998244352);
        usual.due(Due.BAD, "ride", 0, 0, 1, 998244353);
    }

    // ---- promise 25

    private static void alike() {
        D.about("25: the same WEIGHTS on all TREES up to n KNOTS (1 to 6): 1, 0");
        Run x = orders();
        for (int place = 0; place <= 6; place++) {
            for (int n = 1; n <= 6; n++) {
                int same = n <= place ? 1 : 0;
                x.dueStatus(same, 0, "alike", place, 6, n);
                x.dueStatus(same, 0, "alike", 6, place, n);
            }
        }
    }

    private static void alikeLast() {
        D.about("25: all TREES of n KNOTS, the last of them, too");
        Run x = run();
        // both fit the path of three, the second one not the fork
        x.table(0, Due.RADAU);
        x.table(1, 1, 3, 0, 1, 1, 2, 0, 1, 0, 1, 1, 1);
        x.due(x.call("weight", 0, 2), "weight", 1, 2);
        x.due(1, "alike", 0, 1, 2);
        x.due(0, "alike", 0, 1, 3);
        D.about("25: of two TABLES with other numbers, or of one");
        x.whole(2, 0, 0);
        x.call("turn", 3, 0, 0);
        x.call("behind", 3, 0, 3);
        x.due(1, "alike", 2, 3, 6);
        for (int n = 1; n <= 6; n++) {
            x.due(1, "alike", 0, 0, n);
        }
    }

    private static void alikeRefused() {
        D.about("25: BAD");
        Run x = run();
        x.table(0, Due.EULER);
        for (int place : NO_PLACES) {
            x.dueStatus(Due.BAD, 0, "alike", place, 0, 1);
            x.due(Due.BAD, "alike", 0, place, 1);
            x.due(Due.BAD, "alike", 9, place, 1);
            x.due(Due.BAD, "alike", place, 9, 1);
        }
        for (int n : new int[] {0, 7, -1, Due.LEAST, Due.MOST}) {
            x.dueStatus(Due.BAD, 0, "alike", 0, 0, n);
            x.dueStatus(Due.BAD, 0, "alike", 9, 0, n);
            x.dueStatus(Due.BAD, 0, "alike", 0, 9, n);
        }
        D.about("25: NULL (a, then b)");
        x.dueStatus(Due.NULL, 1, "alike", 9, 0, 1);
        x.dueStatus(1, 0, "alike", 0, 0, 1);
        x.dueStatus(Due.NULL, 1, "alike", 0, 9, 6);
        x.dueStatus(Due.NULL, 1, "alike", 9, 9, 1);
    }

    // ---- promise 26

    private static void countNone() {
        D.about("26: How many: none at first, and p");
        Run x = run();
        for (int what = 0; what < 5; what++) {
            x.due(0, "count", what);
        }
        x.due(101, "count", 5);
        new Run(D, 1999999973).due(1999999973, "count", 5);
        new Run(D, 1999999974).due(998244353, "count", 5);
    }

    private static void countAll() {
        D.about("26: How many: up to 8 SHEETS, 10 TABLES");
        Run x = run();
        for (int sheet = 0; sheet < 8; sheet++) {
            x.call("sheet", sheet, sheet % 3, 0);
            x.due(sheet + 1, "count", 0);
        }
        x.call("sheet", 3, 2, 80);
        x.due(8, "count", 0);
        x.fill(Due.EULER);
        for (int place = 0; place < 10; place++) {
            x.call("table", place, 7, 0, 1);
            x.due(place + 1, "count", 1);
            x.due(place + 1, "count", 2);
            x.due(place + 1, "count", 3);
            x.due(0, "count", 4);
        }
        x.fill(Due.MIDPOINT);
        for (int place = 0; place < 10; place++) {
            x.call("table", place, 7, 0, 1);
            x.due(10, "count", 1);
            x.due(9 - place, "count", 2);
            x.due(9 - place, "count", 3);
            x.due(place + 1, "count", 4);
        }
    }

    private static void countKinds() {
        D.about("26: 2 LOWER (PLAIN, too), 3 PLAIN, 4 KEEPING ones, as they are told");
        long[][] rows = {Due.RADAU, Due.BACK_EULER, Due.EULER, Due.MIDPOINT, Due.byOne(0, 0)};
        int[][] counts = {{1, 0, 0, 0}, {1, 1, 0, 0}, {1, 1, 1, 0}, {1, 0, 0, 1}, {1, 1, 1, 0}};
        for (int row = 0; row < rows.length; row++) {
            Run x = run();
            x.table(0, rows[row]);
            for (int what = 1; what <= 4; what++) {
                x.due(counts[row][what - 1], "count", what);
            }
            x.call("clear", 0);
            for (int what = 1; what <= 4; what++) {
                x.due(0, "count", what);
            }
        }
    }

    private static void countBad() {
        D.about("26: BAD");
        Run x = run();
        for (int what : new int[] {-1, 6, 7, Due.LEAST, Due.MOST}) {
            x.dueStatus(Due.BAD, 0, "count", what);
        }
    }

    // ---- promise 27

    private static void statusAtFirst() {
        D.about("27: 0: it had none, or there was none");
        Run x = run();
        x.due(0, "status");
        x.due(0, "status");
        x.call("kind", 10);
        x.due(0, "status");
        x.table(0, Due.EULER);
        x.due(0, "status");
    }

    private static final Object[][] FOUND = {{1, "set", 0, 0, 1}, {2, "set", 1, 4, 1}, {4, "sheet", 0, 0, -1},
        {1, "copy", 0, 0, 1, 0, 1}, {5, "copy", 1, 0, 7, 0, 1}, {2, "copy", 1, 0, 1, 2, 3}, {1, "drop", 0},
        {1, "table", 0, 0, 0, 1}, {2, "table", 0, 1, 1, 1}, {1, "behind", 0, 9, 0}, {1, "behind", 0, 0, 9},
        {1, "turn", 0, 9, 0}, {1, "scale", 0, 9, 0}, {1, "number", 9, 0, 0}, {1, "kind", 9}, {1, "as", 9, 0},
        {3, "as", 0, 3}, {1, "ask", 9, 0}, {1, "weight", 9, 0}, {1, "order", 9, 0}, {1, "share", 9, 0, 0},
        {1, "ride", 9, 0, 0, 0}, {1, "alike", 9, 0, 1}, {1, "alike", 0, 9, 1}};

    private static final Object[][] WELL = {{"set", 1, 0, 1}, {"sheet", 2, 0, 0}, {"copy", 1, 0, 1, 1, 3}, {"drop", 2},
        {"table", 1, 7, 0, 1}, {"behind", 1, 0, 0}, {"turn", 1, 0, 0}, {"scale", 1, 0, 1}, {"number", 0, -1, 0},
        {"number", 0, 0, 0}, {"number", 0, 1, 0}, {"kind", 0}, {"as", 0, 2}, {"ask", 0, 0}, {"ask", 0, 1},
        {"weight", 0, 0}, {"order", 0, 0}, {"order", 0, 1}, {"share", 0, 0, 0}, {"share", 0, 1, 8},
        {"ride", 0, 0, 0, 0}, {"alike", 0, 0, 1}, {"alike", 0, 8, 1}};

    private static final Object[][] LEFT = {{"sheet", 8, 0, 1}, {"sheet", 0, 3, 1}, {"sheet", 0, 0, 81},
        {"set", 8, 0, 1}, {"copy", 8, 0, 0, 0, 0}, {"copy", 0, 0, 8, 0, 0}, {"drop", 8}, {"table", 10, 7, 0, 1},
        {"table", 0, 8, 0, 1}, {"table", 0, 7, 0, 5}, {"table", 0, 1, 0, 1}, {"behind", 10, 0, 0}, {"behind", 0, 8, 8},
        {"turn", 10, 0, 0}, {"turn", 0, 0, 2}, {"scale", 10, 0, 0}, {"scale", 0, 0, 101}, {"number", 10, 0, 0},
        {"number", 0, 2, 0}, {"number", 0, 0, 1}, {"kind", 10}, {"as", 10, 0}, {"as", 0, 4}, {"ask", 10, 0},
        {"ask", 0, 2}, {"weight", 10, 0}, {"weight", 0, 37}, {"order", 10, 0}, {"order", 0, 2}, {"share", 10, 0, 0},
        {"share", 0, 2, 0}, {"share", 0, 0, 9}, {"ride", 10, 0, 0, 0}, {"ride", 0, 10, 0, 0}, {"alike", 10, 0, 1},
        {"alike", 0, 0, 7}, {"trees", 3}, {"trees", 7}, {"tree", 0, 0}, {"tree", 37, 0}, {"level", 0, 0}, {"level", 0, 9},
        {"level", 37, 0}, {"hang", 0, 0}, {"hang", 36, 36}, {"hang", 37, 0}, {"clear", 7}, {"clear", 9}, {"clear", 10},
        {"is", 0, 0}, {"is", 0, 3}, {"is", 9, 0}, {"is", 10, 0}, {"is", 0, 4}, {"trace", 0}, {"trace", 15}, {"trace", 16},
        {"count", 0}, {"count", 5}, {"count", 6}, {"status"}};

    /** Sheets 1 (bytes, all 0) and 7; places 0 (PLAIN), 7 and 8 (of 8 stages). */
    private static Run ready() {
        Run x = run();
        x.table(0, Due.EULER);
        x.call("scale", 7, 0, 1);
        x.call("behind", 8, 0, 0);
        x.call("behind", 8, 8, 8);
        x.call("behind", 8, 8, 8);
        x.call("sheet", 1, 0, 4);
        return x;
    }

    private static long called(Run x, Object[] row, int at) {
        long[] v = new long[row.length - at - 1];
        for (int i = 0; i < v.length; i++) {
            v[i] = (Integer) row[at + 1 + i];
        }
        return x.call((String) row[at], v);
    }

    private static void statusOfFindings() {
        D.about("27: the number of its FINDING");
        for (Object[] row : FOUND) {
            Run x = ready();
            int number = (Integer) row[0];
            D.due(java.util.Arrays.toString(row), called(x, row, 1), -1000010 - number);
            x.due(number, "status");
            x.due(number, "status");
            D.about("27: of the latest call");
            x.call("as", 0, 1);
            x.due(0, "status");
            x.call("as", 0, 3);
            called(x, row, 1);
            x.due(number, "status");
        }
    }

    private static void statusIsCleared() {
        D.about("27: 0: the latest call with a SHEET or a place had none");
        for (Object[] row : WELL) {
            Run x = ready();
            x.call("sheet", 2, 0, 0);
            x.call("as", 0, 3);
            called(x, row, 0);
            D.due("status() behind " + java.util.Arrays.toString(row), x.call("status"), 0);
        }
    }

    private static void statusIsLeft() {
        D.about("27: a call with no SHEET or place, clear(), is(), and what was BAD, FULL, leave it");
        for (Object[] row : LEFT) {
            Run x = ready();
            x.call("as", 0, 3);
            called(x, row, 0);
            D.due("status() behind " + java.util.Arrays.toString(row), x.call("status"), 3);
            x.call("as", 0, 2);
            called(x, row, 0);
            D.due("status() behind " + java.util.Arrays.toString(row), x.call("status"), 0);
        }
    }
}
