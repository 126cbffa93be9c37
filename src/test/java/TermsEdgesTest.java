import java.util.List;

/** The edges that the document's Terms name: each method is about one sentence of them. */
public final class TermsEdgesTest {
    private static final Due D = new Due();

    public static void main(String[] args) {
        lastCall();
        numbersFromZero();
        findingsByNumber();
        missingAtFirst();
        lanes();
        itemsAtFirst();
        itemsAtFirstAgain();
        moduloP();
        fractions();
        knots();
        treesInOrder();
        greatestRow();
        symmetryAndDensity();
        shelfAtFirst();
        tablesNeverChange();
        stages();
        kinds();
        keepingModuloP();
        toldFirst();
        weight();
        fitsModuloP();
        order();
        behind();
        undoneAndTurned();
        scaled();
        share();
        ride();
        rideTellsSums();
        bodies();
        traceHasSixteen();
        D.end();
    }

    private static Run run(int p) {
        return new Run(D, p);
    }

    private static void lastCall() {
        D.about("used for at most 512 calls after it has been made");
        Run x = run(1999999973);
        x.table(0, Due.RUNGE);
        x.call("behind", 1, 0, 0);
        while (x.left() > 1) {
            x.due(0, "turn", 2, 1, 1);
        }
        x.due(8, "number", 2, -1, 0);
        D.due("calls that are left", x.left(), 0);
    }

    private static void numbersFromZero() {
        D.about("Numbers go from 0 on");
        Run x = run(101);
        x.due(4, "sheet", 0, 0, 4);
        x.due(Due.BAD, "sheet", -1, 0, 4);
        x.due(1, "set", 0, 0, 1);
        x.due(Due.PLACE, "set", 0, -1, 1);
        x.table(0, Due.EULER);
        x.due(2, "scale", 0, 0, 0);
        x.due(Due.BAD, "scale", -1, 0, 0);
        x.due(1, "tree", 0, 0);
        x.due(Due.BAD, "tree", -1, 0);
    }

    private static void findingsByNumber() {
        D.about("FINDINGS, -1000010 less 1 NULL, 2 PLACE, 3 KIND, 4 SIZE, 5 STORE");
        Run x = run(101);
        x.table(0, Due.EULER);
        x.call("sheet", 0, 0, 1);
        x.dueStatus(-1000011, 1, "drop", 5);
        x.dueStatus(-1000012, 2, "set", 0, 1, 1);
        x.dueStatus(-1000013, 3, "as", 0, 3);
        x.dueStatus(-1000014, 4, "sheet", 0, 0, -1);
        x.dueStatus(-1000015, 5, "copy", 0, 0, 7, 0, 1);
        x.dueStatus(-1000011, 1, "kind", 9);
    }

    // ---- part 1

    private static void missingAtFirst() {
        D.about("SHEETS 0 .. 7 are missing (at first)");
        Run x = run(101);
        x.due(0, "count", 0);
        for (int sheet = 0; sheet < 8; sheet++) {
            x.due(Due.NULL, "set", sheet, 0, 1);
            x.due(Due.NULL, "drop", sheet);
        }
        for (int sheet : new int[] {-1, 8, Due.LEAST, Due.MOST}) {
            x.due(Due.BAD, "set", sheet, 0, 1);
        }
        for (int sheet = 0; sheet < 8; sheet++) {
            x.due(sheet, "sheet", sheet, 0, sheet);
        }
        x.due(8, "count", 0);
        for (int sheet = 0; sheet < 8; sheet++) {
            x.due(sheet, "drop", sheet);
        }
    }

    private static void lanes() {
        D.about("a LANE (0 bytes, 1 ints, 2 longs)");
        Run x = run(101);
        x.due(Due.BAD, "sheet", 0, -1, 1);
        x.due(1, "sheet", 0, 0, 1);
        x.due(1, "sheet", 1, 1, 1);
        x.due(1, "sheet", 2, 2, 1);
        x.due(Due.BAD, "sheet", 3, 3, 1);
        long v = 0x123456789abcdef0L;
        x.due(-16, "set", 0, 0, v);
        x.due(0x9abcdef0, "set", 1, 0, v);
        x.due(v, "set", 2, 0, v);
    }

    /** Looks at every item of sheet 0 by way of sheet 1 (of its lane) and place 9. */
    private static void dueZeros(Run x, int lane, int n) {
        x.call("sheet", 1, lane, 4);
        x.call("set", 1, 1, 1);
        x.call("set", 1, 3, 1);
        for (int i = 0; i < n; i++) {
            x.due(1, "copy", 0, i, 1, 0, 1);
            x.due(2, "table", 9, 1, 0, 1);
            x.due(0, "number", 9, 0, 0);
        }
        x.due(Due.PLACE, "copy", 0, n, 1, 0, 1);
    }

    private static void itemsAtFirst() {
        D.about("0 to 80 ITEMS, 0 at first");
        for (int lane = 0; lane < 3; lane++) {
            Run x = run(998244353);
            x.due(80, "sheet", 0, lane, 80);
            dueZeros(x, lane, 80);
            x.due(0, "sheet", 0, lane, 0);
            dueZeros(x, lane, 0);
            x.due(Due.BAD, "sheet", 0, lane, 81);
        }
    }

    private static void itemsAtFirstAgain() {
        D.about("0 to 80 ITEMS, 0 at first: of a SHEET in place of another, too");
        for (int lane = 0; lane < 3; lane++) {
            Run x = run(998244353);
            x.call("sheet", 0, lane, 80);
            for (int i = 0; i < 80; i++) {
                x.call("set", 0, i, 7);
            }
            x.due(1, "sheet", 0, lane, 1);
            x.due(80, "sheet", 0, (lane + 1) % 3, 80);
            dueZeros(x, (lane + 1) % 3, 80);
            x.call("set", 0, 3, 7);
            x.call("drop", 0);
            x.call("sheet", 0, lane, 4);
            dueZeros(x, lane, 4);
        }
    }

    private static void moduloP() {
        D.about("All numbers of TABLES are modulo p, 0 to p - 1");
        for (int p : new int[] {101, 998244353, 1999999973}) {
            Run x = run(p);
            long[][] rows = {{p - 1, p - 1}, {p, 0}, {p + 1L, 1}, {-1, p - 1}, {-p, 0}, {1L - p, 1}, {-p - 1L, p - 1},
                {Long.MAX_VALUE, Math.floorMod(Long.MAX_VALUE, (long) p)},
                {Long.MIN_VALUE, Math.floorMod(Long.MIN_VALUE, (long) p)}};
            for (long[] row : rows) {
                x.whole(0, 1, row[0]);
                x.due(row[1], "number", 0, 1, 0);
                x.whole(0, row[0], 1);
                x.due(row[1], "number", 0, 0, 0);
            }
            x.whole(0, 1, p - 1);
            x.call("turn", 1, 0, 0);
            x.dueTable(1, 1, 1, 2, 1);
            x.whole(0, p - 1, 1);
            x.call("turn", 1, 0, 1);
            x.dueTable(1, 1, 1, 2, 1);
            x.call("scale", 1, 0, p - 1);
            x.dueTable(1, 1, 1, 1, p - 1);
        }
    }

    private static void fractions() {
        D.about("u times the number that makes 1 with v (v modulo p not 0)");
        Run x = run(101);
        long[][] wells = {{1, 1, 1}, {1, 2, 51}, {0, 100, 0}, {1, 100, 100}, {1, -1, 100}, {7, 102, 7}, {7, -100, 7},
            {-7, -100, 94}, {101, 5, 0}, {100, 100, 1}, {Long.MIN_VALUE, Long.MIN_VALUE, 1},
            {Long.MAX_VALUE, Long.MAX_VALUE, 1}};
        for (long[] row : wells) {
            x.table(0, 1, 1, row[0], row[1]);
            x.due(row[2], "number", 0, 1, 0);
        }
        x.whole(0, 1, 42);
        long most = Long.MAX_VALUE - Long.MAX_VALUE % 101;
        for (long lower : new long[] {0, 101, -101, 202, -202, most, -most}) {
            D.due("a fraction by " + lower, x.table(0, 1, 1, 1, lower), Due.BAD);
            D.due("a fraction by " + lower, x.table(0, 1, lower, 1, 1), Due.BAD);
        }
        x.dueTable(0, 1, 1, 1, 42);
        D.about("the number that makes 1 with v: modulo the greatest prime, too");
        Run great = run(1999999973);
        for (long v : new long[] {2, 3, 1999999972, 1999999971, 999999986, 999999987, 1L << 30, (1L << 30) - 1, -2}) {
            great.table(0, 1, v, v, 1);
            D.due("v by 1 times 1 by v", great.call("number", 0, 0, 0) * great.call("number", 0, 1, 0) % 1999999973, 1);
        }
    }

    private static void knots() {
        D.about("TREES have 1 to 6 KNOTS, one of them the root");
        Run x = run(101);
        int[] first = {0, 1, 2, 4, 8, 17, 37};
        for (int n = 1; n <= 6; n++) {
            x.due(first[n] - first[n - 1], "trees", n);
            x.due(n, "tree", first[n - 1], 0);
            x.due(n, "tree", first[n] - 1, 0);
            x.due(0, "level", first[n - 1], 0);
            x.due(0, "level", first[n] - 1, 0);
        }
        x.due(Due.BAD, "trees", 0);
        x.due(Due.BAD, "trees", 7);
    }

    private static void treesInOrder() {
        D.about("0 is one KNOT, 1 two, 2 the path of three, 3 the fork of three, .. up to 36");
        String[] rows = {"0", "01", "012", "011", "0123", "0122", "0121", "0111", "01234", "01233", "01232", "01231",
            "01222", "01221", "01212", "01211", "01111", "012345", "012344", "012343", "012342", "012341", "012333",
            "012332", "012331", "012323", "012322", "012321", "012312", "012311", "012222", "012221", "012212",
            "012211", "012121", "012111", "011111"};
        D.due("rows", rows.length, 37);
        Run x = run(101);
        for (int tree = 0; tree < 37; tree++) {
            for (int k = 0; k < rows[tree].length(); k++) {
                x.due(rows[tree].charAt(k) - '0', "level", tree, k);
            }
            x.due(Due.NONE, "level", tree, rows[tree].length());
        }
        x.due(Due.BAD, "level", 37, 0);
    }

    private static void greatestRow() {
        D.about("of all orders in which TREES hang the one whose row of LEVELS is the greatest");
        Run x = run(101);
        // a single knot hung first, a longer tree behind it: the longer one still comes first
        long fork = x.call("hang", x.call("hang", 0, 0), 1);
        D.due("01 and 12 at one root", fork, 6);
        D.due("the same hung the other way", x.call("hang", x.call("hang", 0, 1), 0), 6);
        long deep = x.call("hang", 0, x.call("hang", x.call("hang", 0, 0), 1));
        D.due("the same one level down", deep, 10);
        D.due("three, of one, two and none", x.call("hang", x.call("hang", x.call("hang", 0, 0), 1), 0), 15);
    }

    private static void symmetryAndDensity() {
        D.about("SYMMETRY, DENSITY: of the path and the bush of 1 to 6 KNOTS");
        Run x = run(101);
        int[] first = {0, 1, 2, 4, 8, 17, 37};
        int factorial = 1;
        int ways = 1;
        for (int n = 1; n <= 6; n++) {
            factorial *= n;
            ways *= Math.max(n - 1, 1);
            x.due(1, "tree", first[n - 1], 1);
            x.due(factorial, "tree", first[n - 1], 2);
            x.due(ways, "tree", first[n] - 1, 1);
            x.due(n, "tree", first[n] - 1, 2);
        }
        D.about("SYMMETRY: the root on the root, what hangs stays so");
        x.due(2, "tree", 14, 1);
        x.due(2, "tree", 34, 1);
        x.due(4, "tree", 33, 1);
    }

    // ---- part 2

    private static void shelfAtFirst() {
        D.about("THE SHELF has places 0 .. 9, each empty (at first)");
        Run x = run(101);
        x.due(0, "count", 1);
        for (int place = 0; place < 10; place++) {
            x.due(Due.NULL, "kind", place);
            x.due(0, "clear", place);
        }
        for (int place : new int[] {-1, 10, Due.LEAST, Due.MOST}) {
            x.due(Due.BAD, "kind", place);
        }
        x.fill(Due.MIDPOINT);
        for (int place = 0; place < 10; place++) {
            x.due(3, "table", place, 7, 0, 1);
        }
        x.due(10, "count", 1);
    }

    private static void tablesNeverChange() {
        D.about("TABLES never change");
        Run x = run(101);
        x.whole(0, 4, 5, 6, 7, 8, 9);
        x.call("scale", 1, 0, 1);
        x.call("turn", 2, 0, 0);
        x.call("behind", 3, 0, 1);
        List<Long> second = x.seen(2);
        List<Long> third = x.seen(3);
        x.call("set", 7, 0, 50);
        x.dueTable(0, 2, 0, 4, 5, 6, 7, 8, 9);
        x.call("drop", 7);
        x.dueTable(0, 2, 0, 4, 5, 6, 7, 8, 9);
        x.call("turn", 0, 0, 1);
        x.dueTable(1, 2, 0, 4, 5, 6, 7, 8, 9);
        x.call("clear", 0);
        x.dueTable(1, 2, 0, 4, 5, 6, 7, 8, 9);
        x.call("scale", 1, 1, 0);
        D.same("what was made of it ahead", x.seen(2), second);
        D.same("what was made of both ahead", x.seen(3), third);
    }

    private static void stages() {
        D.about("s stages (1 to 8), numbers a(i, j), b(j), i, j from 0 to s - 1");
        Run x = run(101);
        x.table(0, Due.BACK_EULER);
        x.due(1, "number", 0, -1, 0);
        x.call("behind", 1, 0, 0);
        x.call("behind", 2, 1, 1);
        x.due(1, "behind", 3, 2, 2);
        x.due(8, "number", 3, -1, 0);
        x.due(1, "number", 3, 7, 7);
        x.due(0, "number", 3, 6, 7);
        x.due(1, "number", 3, 8, 7);
        x.due(Due.BAD, "number", 3, 9, 7);
        x.due(Due.BAD, "number", 3, 7, 8);
        x.due(Due.FULL, "behind", 4, 3, 0);
    }

    private static void kinds() {
        D.about("LOWER: a(i, j) is 0 for j above i; PLAIN: a(i, i) is 0, too");
        Run x = run(101);
        D.due("one stage, a not 0", x.whole(0, 1, 1), 1);
        D.due("one stage, a 0", x.whole(0, 0, 1), 2);
        D.due("one stage, a 0 modulo p", x.whole(0, 101, 1), 2);
        for (int at = 0; at < 9; at++) {
            long[] row = {0, 0, 0, 0, 0, 0, 0, 0, 0, 1, 1, 1};
            row[at] = 1;
            int i = at / 3;
            int j = at % 3;
            D.due("a(" + i + ", " + j + ") alone", x.whole(1, row), j > i ? 0 : j == i ? 1 : 2);
        }
        long[] last = new long[20];
        last[11] = 1;
        last[19] = 1;
        last[18] = 1;
        D.due("a(2, 3) of four stages alone", x.whole(2, last), 0);
        last[11] = 0;
        last[15] = 1;
        D.due("a(3, 3) of four stages alone", x.whole(2, last), 1);
    }

    private static void keepingModuloP() {
        D.about("KEEPING: b(i) a(i, j) + b(j) a(j, i) is b(i) b(j) for all i, j");
        Run x = run(101);
        D.due("a half of b", x.whole(0, 51, 1), 3);
        D.due("one beside", x.whole(0, 52, 1), 1);
        D.due("b 0, any a", x.whole(0, 7, 0), 3);
        D.due("a half of b, modulo p", x.whole(0, 100, 99), 3);
        D.due("two stages", x.whole(0, 1, 2, 1, 2, 2, 4), 3);
        D.due("the pair alone is wrong", x.whole(0, 1, 3, 1, 2, 2, 4), 0);
        D.due("the first alone is wrong", x.whole(0, 2, 2, 1, 2, 2, 4), 0);
        D.due("the last alone is wrong", x.whole(0, 1, 2, 1, 3, 2, 4), 0);
        D.due("the sum is above p", x.whole(0, 50, 99, 1, 50, 100, 100), 3);
        Run great = run(1999999973);
        D.due("the greatest numbers", great.whole(0, 1999999972, 1999999971), 3);
        D.due("the greatest numbers", great.whole(0, 1999999972, 1999999972), 1);
    }

    private static void toldFirst() {
        D.about("told as the first that fits of PLAIN, KEEPING, LOWER, TABLE");
        Run x = run(101);
        D.due("PLAIN, LOWER and KEEPING", x.whole(0, 0, 0), 2);
        D.due("PLAIN and LOWER", x.whole(1, 0, 1), 2);
        D.due("KEEPING and LOWER", x.whole(2, 51, 1), 3);
        D.due("KEEPING alone", x.whole(3, 1, 2, 1, 2, 2, 4), 3);
        D.due("LOWER alone", x.whole(4, 1, 1), 1);
        D.due("none of them", x.whole(5, 1, 1, 1, 1, 1, 1), 0);
        D.about("by this it is asked");
        x.due(202, "ask", 0, 0);
        x.due(13, "ask", 2, 0);
    }

    private static void weight() {
        D.about("WEIGHT: the sum over all ways to give a stage to each KNOT");
        Run x = run(1000003);
        x.table(0, Due.EULER);
        x.call("behind", 1, 0, 0);
        x.call("behind", 2, 1, 1);
        x.call("behind", 3, 2, 2);
        int[] first = {0, 1, 2, 4, 8, 17, 37};
        int[] paths = {8, 28, 56, 70, 56, 28};
        for (int n = 1; n <= 6; n++) {
            long bush = 0;
            for (int i = 0; i < 8; i++) {
                bush += n == 1 ? 1 : Math.round(Math.pow(i, n - 1));
            }
            x.due(paths[n - 1], "weight", 3, first[n - 1]);
            x.due(bush, "weight", 3, first[n] - 1);
        }
        x.whole(4, 0, 0);
        x.due(0, "weight", 4, 0);
        x.due(0, "weight", 4, 36);
    }

    private static void fitsModuloP() {
        D.about("It FITS a TREE, if WEIGHT times DENSITY is 1");
        Run x = run(101);
        x.whole(0, 51, 102);
        x.due(1, "weight", 0, 0);
        x.due(51, "weight", 0, 1);
        x.due(2, "order", 0, 1);
        x.whole(0, 51, 100);
        x.due(0, "order", 0, 1);
    }

    private static void order() {
        D.about("ORDER: the greatest n, 6 at most, so that it FITS all TREES of 1 to n KNOTS");
        Run x = run(163);
        long[][] rows = {Due.byOne(0, 2), Due.EULER, Due.MIDPOINT, Due.RADAU, Due.RUNGE, Due.radauFive(13), Due.gauss(34)};
        for (int n = 0; n <= 6; n++) {
            x.table(n, rows[n]);
            x.due(n, "order", n, 0);
        }
        D.about("ORDER 0: not the first");
        x.table(0, 1, 4, 2, 1);
        D.due("it fits the second", x.call("weight", 0, 1) * 2 % 163, 1);
        x.due(0, "order", 0, 0);
        D.about("ORDER: all TREES of n KNOTS, the last of them, too");
        x.table(0, 1, 3, 0, 1, 1, 2, 0, 1, 0, 1, 1, 1);
        D.due("it fits the path of three", x.call("weight", 0, 2) * 6 % 163, 1);
        x.due(2, "order", 0, 0);
        x.due(3, "order", 0, 1);
    }

    private static void behind() {
        D.about("BEHIND: stages of a, then those of b; from a stage of b to one j of a: a's b(j); 0 the other way");
        Run x = run(101);
        x.whole(0, 2, 3);
        x.whole(1, 5, 7);
        x.call("behind", 2, 0, 1);
        x.dueTable(2, 2, 1, 2, 0, 3, 5, 3, 7);
        x.call("behind", 2, 1, 0);
        x.dueTable(2, 2, 1, 5, 0, 7, 2, 7, 3);
        x.whole(0, 100, 100, 100, 100, 100, 100);
        x.call("behind", 2, 0, 1);
        x.dueTable(2, 3, 0, 100, 100, 0, 100, 100, 0, 100, 100, 5, 100, 100, 7);
    }

    private static void undoneAndTurned() {
        D.about("UNDONE: a(i, j) less b(j), and less b(j) for b(j)");
        Run x = run(101);
        x.whole(0, 2, 3);
        x.call("turn", 1, 0, 0);
        x.dueTable(1, 1, 1, 100, 98);
        x.whole(0, 1, 2, 3, 4, 10, 20);
        x.call("turn", 1, 0, 0);
        x.dueTable(1, 2, 0, 92, 83, 94, 85, 91, 81);
        x.whole(0, 0, 0);
        x.call("turn", 1, 0, 0);
        x.dueTable(1, 1, 2, 0, 0);
        D.about("TURNED: b(s - 1 - j) less a(s - 1 - i, s - 1 - j), and b(s - 1 - j)");
        x.whole(0, 2, 3);
        x.call("turn", 1, 0, 1);
        x.dueTable(1, 1, 1, 1, 3);
        x.whole(0, 1, 2, 3, 4, 10, 20);
        x.call("turn", 1, 0, 1);
        x.dueTable(1, 2, 0, 16, 7, 18, 9, 20, 10);
        D.about("TURNED is UNDONE with steps of -1");
        x.call("turn", 2, 0, 0);
        x.call("scale", 2, 2, 100);
        x.due(1, "alike", 1, 2, 6);
        x.whole(0, 0, 1);
        x.due(1, "turn", 1, 0, 1);
        D.about("KINDS of what is TURNED are told anew");
        x.due(2, "turn", 1, 1, 1);
    }

    private static void scaled() {
        D.about("SCALED by c: c times all");
        Run x = run(101);
        x.whole(0, 1, 2, 3, 4, 10, 100);
        x.due(2, "scale", 1, 0, 0);
        x.dueTable(1, 2, 2, 0, 0, 0, 0, 0, 0);
        x.due(0, "scale", 1, 0, 1);
        x.dueTable(1, 2, 0, 1, 2, 3, 4, 10, 100);
        x.due(0, "scale", 1, 0, 100);
        x.dueTable(1, 2, 0, 100, 99, 98, 97, 91, 1);
        Run great = run(1999999973);
        great.whole(0, 1999999972, 1999999972);
        great.call("scale", 0, 0, 1999999972);
        great.dueTable(0, 1, 1, 1, 1);
    }

    private static void share() {
        D.about("SHARE: by rising powers of z, 0 to s");
        Run x = run(101);
        x.table(0, Due.EULER);
        x.table(1, Due.BACK_EULER);
        int[] power = {1, 8, 28, 56, 70, 56, 28, 8, 1};
        for (int place = 0; place < 2; place++) {
            x.call("behind", 2, place, place);
            x.call("behind", 3, 2, 2);
            x.call("behind", 4 + place, 3, 3);
        }
        for (int k = 0; k <= 8; k++) {
            x.due(power[k], "share", 4, 0, k);
            x.due(k == 0 ? 1 : 0, "share", 4, 1, k);
            x.due(k == 0 ? 1 : 0, "share", 5, 0, k);
            x.due(k % 2 == 0 ? power[k] : 101 - power[k], "share", 5, 1, k);
            x.due(k < 2 ? 1 : 0, "share", 0, 0, k);
            x.due(k == 0 ? 1 : k == 1 ? 100 : 0, "share", 1, 1, k);
        }
    }

    // ---- parts 3 and 4

    private static void ride() {
        D.about("A RIDE: from x 0 and y 0, in n steps of h");
        Run x = run(101);
        x.table(0, Due.EULER);
        x.table(1, Due.BACK_EULER);
        x.due(0, "ride", 0, 0, 0, 1);
        x.due(0, "ride", 0, 0, 1000, 0);
        x.due(0, "ride", 0, 9, 1, 100);
        x.due(1, "ride", 0, 0, 1, 1);
        x.due(1000 % 101, "ride", 0, 0, 1000, 1);
        x.due(101 - 91, "ride", 0, 0, 1000, 100);
        x.due(1, "ride", 1, 9, 1, 1);
        x.due(1, "ride", 1, 9, 1, 100);
        D.about("A RIDE: then x is x + h, modulo p, too");
        x.due(499500 % 101, "ride", 0, 1, 1000, 1);
        x.due(500500 % 101, "ride", 1, 1, 1000, 1);
        D.about("A RIDE: c(j) being the sum of a(j, i) over i");
        x.whole(2, 1, 2, 3, 4, 0, 1);
        x.due(7, "ride", 2, 1, 1, 1);
        x.whole(2, 1, 2, 3, 4, 1, 0);
        x.due(3, "ride", 2, 1, 1, 1);
        D.about("A RIDE: x to the power k (k 0 to 9)");
        x.due(19683 % 101, "ride", 2, 9, 1, 1);
        x.due(1, "ride", 2, 0, 1, 1);
    }

    private static void rideTellsSums() {
        D.about("A TABLE of ORDER k + 1 or more tells the sum's own: x to the power k + 1 by k + 1");
        long[][] rows = {Due.EULER, Due.MIDPOINT, Due.RADAU, Due.RUNGE, Due.radauFive(13), Due.gauss(34)};
        for (int order = 1; order <= 6; order++) {
            Run x = run(163);
            x.table(0, rows[order - 1]);
            long end = 1;
            for (int k = 0; k < order; k++) {
                end = end * 17 * 5 % 163;
                D.due("order " + order + ", k " + k, x.call("ride", 0, k, 17, 5) * (k + 1) % 163, end);
            }
        }
        Run x = run(163);
        x.table(0, Due.EULER);
        D.due("k 1 by a table of order 1 is not told", x.call("ride", 0, 1, 1, 1), 0);
    }

    private static void dueBodies(Run x, int place, int what, long answer, int... bodies) {
        x.due(answer, "ask", place, what);
        for (int i = 0; i < bodies.length; i++) {
            x.due(bodies[i], "trace", i);
        }
        x.due(Due.NONE, "trace", bodies.length);
    }

    private static void bodies() {
        Run x = run(101);
        x.table(0, Due.RADAU);
        x.table(1, Due.BACK_EULER);
        x.table(2, Due.EULER);
        x.table(3, Due.MIDPOINT);
        D.about("0 SIZE: 10 lent to all TABLES: s");
        dueBodies(x, 0, 0, 2, 10);
        D.about("11 of LOWER ones: what 10 gives, and 100");
        dueBodies(x, 1, 0, 101, 11, 10);
        D.about("12 of PLAIN ones: twice what 11 gives (asked once)");
        dueBodies(x, 2, 0, 202, 12, 11, 10);
        D.about("13 of KEEPING ones: what 10 gives, and MARK");
        dueBodies(x, 3, 0, 1 + 2 + 10, 13, 10, 22, 20);
        D.about("1 MARK: 20 lent to all TABLES: ORDER");
        dueBodies(x, 0, 1, 3, 20);
        D.about("21 of LOWER ones: what 20 gives, and SIZE");
        dueBodies(x, 1, 1, 1 + 101, 21, 20, 11, 10);
        D.about("else that of the nearest KIND that it is, too; SIZE within others is asked of the same TABLE anew");
        dueBodies(x, 2, 1, 1 + 202, 21, 20, 12, 11, 10);
        D.about("22 of KEEPING ones: what 20 gives, and 10");
        dueBodies(x, 3, 1, 2 + 10, 22, 20);
        D.about("asks of 8 stages, and of ORDER 0");
        x.call("behind", 4, 2, 2);
        x.call("behind", 5, 4, 4);
        x.call("behind", 6, 5, 5);
        dueBodies(x, 6, 0, 216, 12, 11, 10);
        dueBodies(x, 6, 1, 216, 21, 20, 12, 11, 10);
    }

    private static void traceHasSixteen() {
        D.about("leaves its number in THE TRACE as it begins (the first 16)");
        Run x = run(101);
        x.table(0, Due.EULER);
        for (int ask = 0; ask < 9; ask++) {
            dueBodies(x, 0, 1, 203, 21, 20, 12, 11, 10);
            for (int i : new int[] {15, 16, 17, -1, Due.LEAST, Due.MOST}) {
                x.due(Due.NONE, "trace", i);
            }
        }
    }
}
