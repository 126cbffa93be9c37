import java.math.BigInteger;

/** The edges that promises 1 to 5 name. */
public final class SheetsEdgesTest {
    private static final Due D = new Due();

    public static void main(String[] args) {
        smallestPrimes();
        greatestPrimes();
        productsOfPrimes();
        everySmallNumber();
        sheetAnswersN();
        sheetBad();
        sheetSize();
        setLowestBits();
        setIsKept();
        setRefused();
        copyAll();
        copyAsTheyWere();
        copyNone();
        copyBad();
        copyNull();
        copyStore();
        copyPlace();
        dropHad();
        dropIsMissing();
        dropRefused();
        D.end();
    }

    private static Run run() {
        return new Run(D, 101);
    }

    private static void dueP(long wanted, long p) {
        new Run(D, (int) wanted).due(p, "count", 5);
    }

    // ---- promise 1

    private static void smallestPrimes() {
        D.about("1: a prime from 101");
        dueP(101, 101);
        dueP(103, 103);
        for (int p : new int[] {97, 89, 2, 3, 5, 7, 1, 0, 100, 102, 99}) {
            dueP(p, 998244353);
        }
        for (int p : new int[] {-1, -2, -101, -103, Due.LEAST, Due.LEAST + 1}) {
            dueP(p, 998244353);
        }
    }

    private static void greatestPrimes() {
        D.about("1: a prime .. to 2000000000");
        long below = 2000000000;
        while (!BigInteger.valueOf(below).isProbablePrime(50)) {
            below--;
        }
        dueP(below, below);
        dueP(BigInteger.valueOf(2000000000).nextProbablePrime().longValue(), 998244353);
        dueP(2000000000, 998244353);
        dueP(1999999999, 998244353);
        dueP(Due.MOST, 998244353);
        dueP(998244353, 998244353);
        dueP(998244353 - 2, 998244353);
    }

    private static void productsOfPrimes() {
        D.about("1: if that is a prime; else 998244353");
        for (int n : new int[] {121, 169, 10201, 101 * 103, 3 * 37, 5 * 101, 44701 * 44711, 44711 * 44711, 1999966841,
            3 * 666666667, 2 * 999999937, 1 << 30, 561, 1105, 1729, 3215031}) {
            boolean prime = BigInteger.valueOf(n).isProbablePrime(50);
            dueP(n, prime ? n : 998244353);
        }
    }

    private static void everySmallNumber() {
        D.about("1: Modulo p, if that is a prime from 101");
        for (int n = -20; n < 3000; n++) {
            boolean kept = n >= 101 && BigInteger.valueOf(n).isProbablePrime(50);
            dueP(n, kept ? n : 998244353);
        }
    }

    // ---- promise 2

    private static void sheetAnswersN() {
        D.about("2: A SHEET of a LANE with n ITEMS, in place of what is there: n");
        Run x = run();
        for (int sheet : new int[] {0, 7}) {
            for (int lane = 0; lane < 3; lane++) {
                for (int n : new int[] {0, 1, 79, 80}) {
                    x.due(n, "sheet", sheet, lane, n);
                    x.due(n == 0 ? Due.PLACE : 1, "set", sheet, Math.max(n - 1, 0), 1);
                    x.due(Due.PLACE, "set", sheet, n, 1);
                }
            }
        }
        x.due(2, "count", 0);
        x.due(80, "drop", 0);
    }

    private static void sheetBad() {
        D.about("2: BAD: SHEET, LANE, n above 80");
        Run x = run();
        for (int sheet : new int[] {-1, 8, Due.LEAST, Due.MOST}) {
            x.due(Due.BAD, "sheet", sheet, 0, 1);
        }
        for (int lane : new int[] {-1, 3, Due.LEAST, Due.MOST}) {
            x.due(Due.BAD, "sheet", 0, lane, 1);
        }
        for (int n : new int[] {81, 82, 160, Due.MOST}) {
            x.due(Due.BAD, "sheet", 0, 0, n);
        }
        x.due(0, "count", 0);
    }

    private static void sheetSize() {
        D.about("2: SIZE");
        Run x = run();
        for (int n : new int[] {-1, -80, -81, Due.LEAST}) {
            x.dueStatus(Due.SIZE, 4, "sheet", 0, 0, n);
            x.due(Due.NULL, "drop", 0);
        }
        D.about("2: BAD ahead of SIZE");
        x.due(Due.BAD, "sheet", 8, 0, -1);
        x.due(Due.BAD, "sheet", 0, 3, -1);
        D.about("2: SIZE leaves what is there");
        x.due(3, "sheet", 0, 0, 3);
        x.due(Due.SIZE, "sheet", 0, 2, -1);
        x.due(-1, "set", 0, 2, 255);
        x.due(3, "drop", 0);
    }

    // ---- promise 3

    private static void setLowestBits() {
        D.about("3: its lowest bits, as many as the LANE has (read with their sign)");
        Run x = run();
        long[][] bytes = {{0, 0}, {127, 127}, {128, -128}, {129, -127}, {255, -1}, {256, 0}, {257, 1}, {-1, -1},
            {-128, -128}, {-129, 127}, {-256, 0}, {-257, -1}, {Long.MAX_VALUE, -1}, {Long.MIN_VALUE, 0}};
        long[][] ints = {{128, 128}, {2147483647L, 2147483647L}, {2147483648L, -2147483648L}, {4294967295L, -1},
            {4294967296L, 0}, {4294967297L, 1}, {-2147483648L, -2147483648L}, {-2147483649L, 2147483647L},
            {-4294967296L, 0}, {-4294967297L, -1}, {Long.MAX_VALUE, -1}, {Long.MIN_VALUE, 0}};
        long[][] longs = {{128, 128}, {2147483648L, 2147483648L}, {-2147483649L, -2147483649L}, {4294967296L, 4294967296L},
            {Long.MAX_VALUE, Long.MAX_VALUE}, {Long.MIN_VALUE, Long.MIN_VALUE}, {-1, -1}};
        long[][][] lanes = {bytes, ints, longs};
        for (int lane = 0; lane < 3; lane++) {
            x.call("sheet", lane, lane, 1);
            for (long[] row : lanes[lane]) {
                x.due(row[1], "set", lane, 0, row[0]);
            }
        }
    }

    /** An item of a sheet, modulo p: by way of sheet 6, of the same lane, and place 9. */
    private static long read(Run x, int sheet, int lane, int i) {
        x.call("sheet", 6, lane, 4);
        x.call("set", 6, 1, 1);
        x.call("set", 6, 3, 1);
        x.call("copy", sheet, i, 6, 0, 1);
        x.call("table", 9, 6, 0, 1);
        return x.call("number", 9, 0, 0);
    }

    private static void setIsKept() {
        D.about("3: ITEM i becomes v: what it is then");
        Run x = new Run(D, 998244353);
        for (int lane = 0; lane < 3; lane++) {
            x.call("sheet", lane, lane, 80);
            x.due(-56, "set", lane, 0, lane == 0 ? 200 : -56);
            x.due(99, "set", lane, 79, 99);
            D.due("the first item", read(x, lane, lane, 0), 998244353 - 56);
            D.due("the one behind it", read(x, lane, lane, 1), 0);
            D.due("the one ahead of the last", read(x, lane, lane, 78), 0);
            D.due("the last item", read(x, lane, lane, 79), 99);
        }
        x.due(1L << 40, "set", 2, 5, 1L << 40);
        D.due("a long", read(x, 2, 2, 5), (1L << 40) % 998244353);
        D.about("3: an ITEM may be what a refusal is");
        for (long v : new long[] {Due.NONE, Due.BAD, Due.FULL, Due.NULL, Due.PLACE}) {
            x.dueStatus(v, 0, "set", 2, 5, v);
        }
    }

    private static void setRefused() {
        D.about("3: BAD: SHEET");
        Run x = run();
        for (int sheet : new int[] {-1, 8, Due.LEAST, Due.MOST}) {
            x.due(Due.BAD, "set", sheet, 0, 1);
        }
        D.about("3: NULL");
        x.dueStatus(Due.NULL, 1, "set", 0, 0, 1);
        x.due(Due.NULL, "set", 7, 80, 1);
        D.about("3: PLACE");
        x.call("sheet", 0, 0, 0);
        x.dueStatus(Due.PLACE, 2, "set", 0, 0, 1);
        x.call("sheet", 0, 0, 4);
        for (int i : new int[] {-1, 4, 5, 79, 80, Due.LEAST, Due.MOST}) {
            x.dueStatus(Due.PLACE, 2, "set", 0, i, 1);
        }
        x.call("sheet", 1, 2, 80);
        x.due(Due.PLACE, "set", 1, 80, 1);
        x.dueStatus(5, 0, "set", 1, 79, 5);
    }

    // ---- promise 4

    private static Run counted(int n) {
        Run x = run();
        x.call("sheet", 0, 2, n);
        for (int i = 0; i < n; i++) {
            x.call("set", 0, i, i + 1);
        }
        return x;
    }

    private static void dueItems(Run x, int sheet, long... items) {
        for (int i = 0; i < items.length; i++) {
            D.due("item " + i + " of " + sheet, read(x, sheet, 2, i), items[i]);
        }
    }

    private static void copyAll() {
        D.about("4: n ITEMS of a from i on come to b from j on: n");
        Run x = counted(80);
        x.call("sheet", 1, 2, 80);
        x.due(80, "copy", 0, 0, 1, 0, 80);
        for (int i = 0; i < 80; i += 13) {
            D.due("item " + i, read(x, 1, 2, i), i + 1);
        }
        D.due("the last item", read(x, 1, 2, 79), 80);
        x.due(1, "copy", 0, 79, 1, 0, 1);
        D.due("the first item", read(x, 1, 2, 0), 80);
        D.due("the second item", read(x, 1, 2, 1), 2);
        x.due(1, "copy", 0, 0, 1, 79, 1);
        D.due("the last item", read(x, 1, 2, 79), 1);
        D.due("the one ahead of it", read(x, 1, 2, 78), 79);
    }

    private static void copyAsTheyWere() {
        D.about("4: as they were ahead");
        Run x = counted(4);
        x.due(3, "copy", 0, 0, 0, 1, 3);
        dueItems(x, 0, 1, 1, 2, 3);
        x = counted(4);
        x.due(3, "copy", 0, 1, 0, 0, 3);
        dueItems(x, 0, 2, 3, 4, 4);
        x = counted(4);
        x.due(4, "copy", 0, 0, 0, 0, 4);
        dueItems(x, 0, 1, 2, 3, 4);
        D.about("4: what comes to b is not of a from then on");
        x.call("sheet", 1, 2, 4);
        x.call("copy", 0, 0, 1, 0, 4);
        x.call("set", 0, 0, 50);
        x.call("set", 1, 3, 60);
        dueItems(x, 0, 50, 2, 3, 4);
        dueItems(x, 1, 1, 2, 3, 60);
    }

    private static void copyNone() {
        D.about("4: n 0, up to the very end");
        Run x = counted(4);
        x.call("sheet", 1, 2, 0);
        x.call("sheet", 2, 2, 0);
        x.dueStatus(0, 0, "copy", 0, 0, 1, 0, 0);
        x.dueStatus(0, 0, "copy", 0, 4, 1, 0, 0);
        x.dueStatus(0, 0, "copy", 1, 0, 0, 4, 0);
        x.dueStatus(0, 0, "copy", 1, 0, 2, 0, 0);
        x.dueStatus(0, 0, "copy", 1, 0, 1, 0, 0);
        x.dueStatus(Due.PLACE, 2, "copy", 0, 5, 1, 0, 0);
        x.dueStatus(Due.PLACE, 2, "copy", 0, 0, 1, 1, 0);
        x.dueStatus(Due.PLACE, 2, "copy", 1, 0, 0, 5, 0);
        dueItems(x, 0, 1, 2, 3, 4);
    }

    private static void copyBad() {
        D.about("4: BAD: SHEETS");
        Run x = counted(4);
        for (int sheet : new int[] {-1, 8, Due.LEAST, Due.MOST}) {
            x.due(Due.BAD, "copy", sheet, 0, 0, 0, 1);
            x.due(Due.BAD, "copy", 0, 0, sheet, 0, 1);
            x.due(Due.BAD, "copy", sheet, 0, sheet, 0, 1);
        }
        D.about("4: BAD ahead of NULL");
        x.due(Due.BAD, "copy", 5, 0, 8, 0, 1);
        x.due(Due.BAD, "copy", 8, 0, 5, 0, 1);
        D.about("4: BAD ahead of PLACE");
        x.due(Due.BAD, "copy", 0, -1, 8, -1, -1);
        x.due(0, "status");
    }

    private static void copyNull() {
        D.about("4: NULL");
        Run x = counted(4);
        x.dueStatus(Due.NULL, 1, "copy", 0, 0, 1, 0, 1);
        x.call("status");
        x.dueStatus(Due.NULL, 1, "copy", 1, 0, 0, 0, 1);
        x.dueStatus(Due.NULL, 1, "copy", 1, 0, 2, 0, 1);
        x.dueStatus(Due.NULL, 1, "copy", 1, 0, 1, 0, 0);
        D.about("4: NULL ahead of PLACE");
        x.due(Due.NULL, "copy", 0, -1, 1, 0, 1);
        x.due(Due.NULL, "copy", 1, 0, 0, 9, 1);
        x.due(Due.NULL, "copy", 1, 0, 0, 0, -1);
    }

    private static void copyStore() {
        D.about("4: STORE");
        Run x = run();
        for (int lane = 0; lane < 3; lane++) {
            x.call("sheet", lane, lane, 2);
            x.call("sheet", 3 + lane, lane, 2);
        }
        for (int a = 0; a < 3; a++) {
            for (int b = 0; b < 3; b++) {
                x.dueStatus(a == b ? 1 : Due.STORE, a == b ? 0 : 5, "copy", a, 0, 3 + b, 0, 1);
                x.dueStatus(a == b ? 0 : Due.STORE, a == b ? 0 : 5, "copy", a, 0, 3 + b, 0, 0);
            }
        }
        D.about("4: STORE ahead of PLACE");
        x.due(Due.STORE, "copy", 0, -1, 1, 0, 1);
        x.due(Due.STORE, "copy", 0, 0, 1, 3, 1);
        x.due(Due.STORE, "copy", 0, 0, 1, 0, -1);
        x.due(Due.STORE, "copy", 0, 0, 1, 0, 3);
    }

    private static void copyPlace() {
        D.about("4: PLACE (i, j, n below 0, or beyond an end)");
        Run x = counted(4);
        x.call("sheet", 1, 2, 3);
        int[][] found = {{-1, 0, 1}, {0, -1, 1}, {0, 0, -1}, {-1, 0, 0}, {0, -1, 0}, {4, 0, -1}, {0, 0, 4}, {2, 0, 3},
            {0, 1, 3}, {4, 0, 1}, {0, 3, 1}, {5, 0, 0}, {0, 4, 0}, {0, 0, Due.MOST}, {Due.MOST, 0, 1}, {0, Due.MOST, 1},
            {Due.MOST, 0, Due.MOST}, {0, Due.MOST, Due.MOST}, {1, 1, Due.MOST}, {Due.LEAST, 0, 1}, {0, Due.LEAST, 1},
            {0, 0, Due.LEAST}, {Due.LEAST, Due.LEAST, Due.LEAST}, {Due.MOST, Due.MOST, 2}};
        for (int[] v : found) {
            x.dueStatus(Due.PLACE, 2, "copy", 0, v[0], 1, v[1], v[2]);
        }
        x.dueStatus(3, 0, "copy", 0, 1, 1, 0, 3);
        x.due(3, "copy", 1, 0, 0, 1, 3);
        x.due(Due.PLACE, "copy", 1, 0, 0, 1, 4);
        x.due(Due.PLACE, "copy", 1, 0, 0, 2, 3);
        dueItems(x, 0, 1, 2, 3, 4);
    }

    // ---- promise 5

    private static void dropHad() {
        D.about("5: how many ITEMS it had");
        Run x = run();
        for (int n : new int[] {0, 1, 80}) {
            x.call("sheet", 0, 2, n);
            x.call("sheet", 7, 0, 80 - n);
            x.dueStatus(n, 0, "drop", 0);
            x.due(80 - n, "drop", 7);
        }
    }

    private static void dropIsMissing() {
        D.about("5: A SHEET is missing from now on");
        Run x = counted(4);
        x.call("sheet", 1, 2, 4);
        x.due(4, "drop", 0);
        x.due(1, "count", 0);
        x.due(Due.NULL, "drop", 0);
        x.due(Due.NULL, "set", 0, 0, 1);
        x.due(Due.NULL, "copy", 0, 0, 1, 0, 1);
        x.due(Due.NULL, "copy", 1, 0, 0, 0, 1);
        x.due(Due.NULL, "table", 0, 0, 0, 1);
        x.due(4, "drop", 1);
        x.due(0, "count", 0);
        x.due(2, "sheet", 0, 0, 2);
        x.due(1, "count", 0);
    }

    private static void dropRefused() {
        D.about("5: BAD");
        Run x = counted(4);
        for (int sheet : new int[] {-1, 8, Due.LEAST, Due.MOST}) {
            x.dueStatus(Due.BAD, 0, "drop", sheet);
        }
        D.about("5: NULL");
        x.dueStatus(Due.NULL, 1, "drop", 7);
        x.due(1, "count", 0);
        dueItems(x, 0, 1, 2, 3, 4);
    }
}
