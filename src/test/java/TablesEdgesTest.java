import java.util.List;

/** The edges that promises 10 to 20 name. */
public final class TablesEdgesTest {
    private static final Due D = new Due();
    private static final int[] NO_PLACES = {-1, 10, Due.LEAST, Due.MOST};

    public static void main(String[] args) {
        tableStages();
        tableAnyPlace();
        tableInOrder();
        tableBad();
        tableNull();
        tablePlace();
        tableLowerZero();
        tableLowerZeroModuloP();
        behindUpToEight();
        behindFull();
        behindSamePlace();
        behindRefused();
        turn();
        turnRefused();
        scale();
        scaleRefused();
        clear();
        clearBad();
        number();
        numberOfStages();
        numberRefused();
        kind();
        is();
        isOfNothing();
        isBad();
        as();
        asRefused();
        ask();
        askRefused();
        trace();
        D.end();
    }

    private static Run run() {
        return new Run(D, 101);
    }

    /** Eulers one behind the other: place s - 1 gets s stages, 1 to 8. */
    private static Run ladder() {
        Run x = run();
        x.table(0, Due.EULER);
        for (int s = 2; s <= 8; s++) {
            x.call("behind", s - 1, s - 2, 0);
        }
        return x;
    }

    /** Sheet 0: n longs, all of them 1. */
    private static Run ones(int n) {
        Run x = run();
        x.call("sheet", 0, 2, n);
        for (int i = 0; i < n; i++) {
            x.call("set", 0, i, 1);
        }
        return x;
    }

    // ---- promise 10

    private static void tableStages() {
        D.about("10: s stages (1 to 4), two ITEMS each from i on");
        for (int s = 1; s <= 4; s++) {
            int need = 2 * s * (s + 1);
            Run x = ones(need);
            x.due(s == 1 ? 1 : 0, "table", 0, 0, 0, s);
            x.due(s, "number", 0, -1, 0);
            x.due(Due.PLACE, "table", 1, 0, 1, s);
            x = ones(need - 1);
            x.due(Due.PLACE, "table", 0, 0, 0, s);
            x.due(0, "count", 1);
            x = ones(80);
            x.due(s == 1 ? 1 : 0, "table", 0, 0, 80 - need, s);
            x.due(Due.PLACE, "table", 1, 0, 81 - need, s);
            x.due(1, "count", 1);
        }
        Run x = ones(80);
        for (int s : new int[] {0, 5, -1, 8, Due.LEAST, Due.MOST}) {
            x.due(Due.BAD, "table", 0, 0, 0, s);
        }
    }

    private static void tableAnyPlace() {
        D.about("10: A place has the TABLE");
        Run x = ones(4);
        for (int place = 0; place < 10; place++) {
            x.dueStatus(1, 0, "table", place, 0, 0, 1);
            x.due(place + 1, "count", 1);
        }
        D.about("10: in place of what it had");
        x.call("set", 0, 0, 0);
        x.due(2, "table", 9, 0, 0, 1);
        x.due(10, "count", 1);
        x.dueTable(9, 1, 2, 0, 1);
        x.dueTable(8, 1, 1, 1, 1);
    }

    private static void tableInOrder() {
        D.about("10: a(0, 0), a(0, 1), .., all of them, then b(0), ..");
        for (int s = 1; s <= 4; s++) {
            Run x = run();
            int many = s * (s + 1);
            long[] numbers = new long[many];
            for (int k = 0; k < many; k++) {
                numbers[k] = 50 + k;
            }
            D.due("table of " + s, x.whole(0, numbers), s == 1 ? 1 : 0);
            x.dueTable(0, s, s == 1 ? 1 : 0, numbers);
        }
        D.about("10: ITEMS of each LANE");
        for (int lane = 0; lane < 3; lane++) {
            Run x = run();
            x.call("sheet", 0, lane, 4);
            x.call("set", 0, 0, 255);
            x.call("set", 0, 1, -128);
            x.call("set", 0, 2, 1);
            x.call("set", 0, 3, 1);
            x.call("table", 0, 0, 0, 1);
            long upper = lane == 0 ? 100 : 255 % 101;
            D.due("u is v times the FRACTION", x.call("number", 0, 0, 0) * (202 - 128) % 101, upper);
        }
    }

    private static void tableBad() {
        D.about("10: BAD: place, SHEET, s");
        Run x = ones(4);
        for (int place : NO_PLACES) {
            x.dueStatus(Due.BAD, 0, "table", place, 0, 0, 1);
        }
        for (int sheet : new int[] {-1, 8, Due.LEAST, Due.MOST}) {
            x.dueStatus(Due.BAD, 0, "table", 0, sheet, 0, 1);
        }
        D.about("10: BAD ahead of NULL and PLACE");
        x.due(Due.BAD, "table", 10, 1, 0, 1);
        x.due(Due.BAD, "table", 0, 1, 0, 5);
        x.due(Due.BAD, "table", 0, 1, 0, 0);
        x.due(Due.BAD, "table", 10, 0, -1, 1);
        x.due(Due.BAD, "table", 0, 0, -1, 0);
        x.due(Due.BAD, "table", 0, 8, -1, 1);
        x.due(0, "status");
        x.due(0, "count", 1);
    }

    private static void tableNull() {
        D.about("10: NULL");
        Run x = ones(4);
        for (int sheet = 1; sheet < 8; sheet++) {
            x.dueStatus(Due.NULL, 1, "table", 0, sheet, 0, 1);
        }
        D.about("10: NULL ahead of PLACE");
        x.due(Due.NULL, "table", 0, 1, -1, 1);
        x.due(Due.NULL, "table", 0, 1, 80, 4);
        x.due(0, "count", 1);
    }

    private static void tablePlace() {
        D.about("10: PLACE");
        Run x = ones(5);
        x.call("table", 0, 0, 0, 1);
        for (int i : new int[] {-1, 2, 3, 4, 5, 6, 80, Due.LEAST, Due.MOST, Due.MOST - 3}) {
            x.dueStatus(Due.PLACE, 2, "table", 0, 0, i, 1);
        }
        x.dueStatus(1, 0, "table", 1, 0, 1, 1);
        x.due(Due.PLACE, "table", 0, 0, 0, 2);
        x.call("sheet", 1, 2, 0);
        x.dueStatus(Due.PLACE, 2, "table", 0, 1, 0, 1);
        x.dueTable(0, 1, 1, 1, 1);
        D.about("10: PLACE, then BAD: a lower number is 0");
        x.call("set", 0, 3, 0);
        x.due(Due.PLACE, "table", 0, 0, 2, 1);
        x.due(Due.PLACE, "table", 0, 0, 0, 4);
        x.call("sheet", 0, 2, 39);
        x.due(Due.PLACE, "table", 0, 0, 0, 4);
    }

    private static void tableLowerZero() {
        D.about("10: then BAD: a lower number is 0 modulo p");
        for (int s : new int[] {1, 2, 4}) {
            int need = 2 * s * (s + 1);
            Run x = ones(need);
            x.call("table", 3, 0, 0, s);
            List<Long> was = x.seen(3);
            x.call("kind", 9);
            for (int k = 1; k < need; k += 2) {
                x.call("set", 0, k, 0);
                x.call("kind", 9);
                x.dueStatus(Due.BAD, 1, "table", 3, 0, 0, s);
                x.due(Due.BAD, "table", 4, 0, 0, s);
                x.call("set", 0, k, 1);
            }
            D.same("what was there", x.seen(3), was);
            x.due(1, "count", 1);
            D.about("10: an upper number may be 0");
            for (int k = 0; k < need; k += 2) {
                x.call("set", 0, k, 0);
            }
            x.due(2, "table", 3, 0, 0, s);
            D.about("10: then BAD: a lower number is 0 modulo p");
        }
    }

    private static void tableLowerZeroModuloP() {
        D.about("10: a lower number is 0 modulo p");
        Run x = ones(4);
        for (long v : new long[] {101, -101, 202, 101L * 1000000007L, -101L * 1000000007L}) {
            x.call("set", 0, 3, v);
            x.due(Due.BAD, "table", 0, 0, 0, 1);
            x.call("set", 0, 3, v + 1);
            x.due(1, "table", 0, 0, 0, 1);
            x.call("set", 0, 3, v - 1);
            x.due(1, "table", 0, 0, 0, 1);
        }
        x.call("sheet", 0, 0, 4);
        x.call("set", 0, 1, 1);
        x.call("set", 0, 3, 256 - 101);
        x.due(Due.BAD, "table", 0, 0, 0, 1);
        x.call("set", 0, 3, 256 + 101);
        x.due(Due.BAD, "table", 0, 0, 0, 1);
    }

    // ---- promise 11

    private static void behindUpToEight() {
        D.about("11: A place has a BEHIND b; 8 stages are not more than 8");
        Run x = ladder();
        for (int s = 1; s <= 7; s++) {
            x.dueStatus(2, 0, "behind", 9, s - 1, 7 - s);
            x.due(8, "number", 9, -1, 0);
            x.due(1, "alike", 9, 7, 6);
        }
        x.due(2, "behind", 9, 0, 0);
        x.due(2, "number", 9, -1, 0);
    }

    private static void behindFull() {
        D.about("11: then FULL: more than 8 stages");
        Run x = ladder();
        List<Long> was = x.seen(2);
        for (int s = 1; s <= 8; s++) {
            x.call("kind", 9);
            x.dueStatus(Due.FULL, 1, "behind", 9, s - 1, 8 - s);
            x.due(Due.FULL, "behind", 2, s - 1, 7);
            x.due(Due.FULL, "behind", 2, 7, s - 1);
        }
        x.due(Due.NULL, "kind", 9);
        D.same("what was there", x.seen(2), was);
        D.about("11: NULL, then FULL");
        x.due(Due.NULL, "behind", 0, 7, 9);
        x.due(Due.NULL, "behind", 0, 9, 7);
        D.about("11: BAD ahead of FULL");
        x.due(Due.BAD, "behind", 10, 7, 7);
        x.due(Due.BAD, "behind", -1, 7, 7);
    }

    private static void behindSamePlace() {
        D.about("11: the place may be that of a, of b, of both");
        Run x = run();
        x.whole(0, 2, 3);
        x.whole(1, 5, 7);
        x.due(1, "behind", 0, 0, 1);
        x.dueTable(0, 2, 1, 2, 0, 3, 5, 3, 7);
        x.due(1, "behind", 1, 0, 1);
        x.dueTable(1, 3, 1, 2, 0, 0, 3, 5, 0, 3, 7, 5, 3, 7, 7);
        x.due(1, "behind", 0, 0, 0);
        x.dueTable(0, 4, 1, 2, 0, 0, 0, 3, 5, 0, 0, 3, 7, 2, 0, 3, 7, 3, 5, 3, 7, 3, 7);
    }

    private static void behindRefused() {
        D.about("11: BAD: places");
        Run x = run();
        x.table(0, Due.EULER);
        for (int place : NO_PLACES) {
            x.dueStatus(Due.BAD, 0, "behind", place, 0, 0);
            x.due(Due.BAD, "behind", 0, place, 0);
            x.due(Due.BAD, "behind", 0, 0, place);
            D.about("11: BAD ahead of NULL");
            x.due(Due.BAD, "behind", place, 1, 1);
            x.due(Due.BAD, "behind", 0, place, 1);
            x.due(Due.BAD, "behind", 0, 1, place);
        }
        D.about("11: NULL (a, then b)");
        x.dueStatus(Due.NULL, 1, "behind", 0, 1, 0);
        x.dueStatus(Due.NULL, 1, "behind", 0, 0, 1);
        x.dueStatus(Due.NULL, 1, "behind", 0, 1, 1);
        x.dueTable(0, 1, 2, 0, 1);
        x.due(1, "count", 1);
    }

    // ---- promises 12 and 13

    private static void turn() {
        D.about("12: A place has a TABLE UNDONE (how = 0), TURNED (1): of 1 and of 8 stages");
        Run x = run();
        x.whole(0, 4, 9);
        x.dueStatus(1, 0, "turn", 1, 0, 0);
        x.dueTable(1, 1, 1, 96, 92);
        x.due(1, "turn", 1, 0, 1);
        x.dueTable(1, 1, 1, 5, 9);
        Run y = ladder();
        D.about("12: TURNED, of 8 stages");
        y.due(1, "turn", 9, 7, 1);
        y.due(1, "number", 9, 0, 0);
        y.due(1, "number", 9, 7, 0);
        y.due(0, "number", 9, 0, 7);
        y.due(1, "number", 9, 7, 7);
        D.about("12: turned again it is what it was");
        List<Long> was = y.seen(7);
        y.due(2, "turn", 9, 9, 1);
        D.same("TURNED twice", y.seen(9), was);
        y.call("turn", 9, 7, 0);
        y.due(2, "turn", 9, 9, 0);
        D.same("UNDONE twice", y.seen(9), was);
        D.same("what was turned", y.seen(7), was);
    }

    private static void turnRefused() {
        D.about("12: BAD: places, how");
        Run x = run();
        x.table(0, Due.EULER);
        for (int place : NO_PLACES) {
            x.dueStatus(Due.BAD, 0, "turn", place, 0, 0);
            x.due(Due.BAD, "turn", 0, place, 1);
            x.due(Due.BAD, "turn", place, 1, 1);
        }
        for (int how : new int[] {-1, 2, Due.LEAST, Due.MOST}) {
            x.dueStatus(Due.BAD, 0, "turn", 0, 0, how);
            D.about("12: BAD ahead of NULL");
            x.due(Due.BAD, "turn", 0, 1, how);
        }
        D.about("12: NULL");
        x.dueStatus(Due.NULL, 1, "turn", 0, 1, 0);
        x.dueStatus(Due.NULL, 1, "turn", 1, 1, 1);
        x.dueTable(0, 1, 2, 0, 1);
        x.due(1, "count", 1);
    }

    private static void scale() {
        D.about("13: SCALED by c (0 to p - 1)");
        for (int p : new int[] {101, 998244353, 1999999973}) {
            Run x = new Run(D, p);
            x.whole(0, 1, 2);
            x.dueStatus(2, 0, "scale", 1, 0, 0);
            x.dueTable(1, 1, 2, 0, 0);
            x.due(3, "scale", 1, 0, 1);
            x.dueTable(1, 1, 3, 1, 2);
            x.due(3, "scale", 1, 0, p - 1);
            x.dueTable(1, 1, 3, p - 1, p - 2);
            x.due(3, "scale", 1, 1, p - 1);
            x.dueTable(1, 1, 3, 1, 2);
            x.due(Due.BAD, "scale", 1, 0, p);
            x.due(Due.BAD, "scale", 1, 0, -1);
        }
        D.about("13: p is the one that it goes by");
        Run x = new Run(D, 97);
        x.whole(0, 1, 2);
        x.due(3, "scale", 1, 0, 98);
        x.due(3, "scale", 1, 0, 998244352);
        x.due(Due.BAD, "scale", 1, 0, 998244353);
    }

    private static void scaleRefused() {
        D.about("13: BAD: places, c");
        Run x = run();
        x.table(0, Due.EULER);
        for (int place : NO_PLACES) {
            x.dueStatus(Due.BAD, 0, "scale", place, 0, 1);
            x.due(Due.BAD, "scale", 0, place, 1);
            x.due(Due.BAD, "scale", place, 1, 1);
        }
        for (int c : new int[] {-1, 101, 102, Due.LEAST, Due.MOST}) {
            x.dueStatus(Due.BAD, 0, "scale", 0, 0, c);
            D.about("13: BAD ahead of NULL");
            x.due(Due.BAD, "scale", 0, 1, c);
        }
        D.about("13: NULL");
        x.dueStatus(Due.NULL, 1, "scale", 0, 1, 0);
        x.dueStatus(Due.NULL, 1, "scale", 1, 1, 100);
        x.dueTable(0, 1, 2, 0, 1);
        x.due(1, "count", 1);
    }

    // ---- promises 14 and 15

    private static void clear() {
        D.about("14: A place is empty from now on: 1; 0: it was");
        Run x = run();
        x.fill(Due.EULER);
        for (int place = 0; place < 10; place++) {
            x.due(0, "clear", place);
            x.call("table", place, 7, 0, 1);
            x.due(1, "count", 1);
            x.due(1, "clear", place);
            x.due(0, "clear", place);
            x.due(0, "count", 1);
            x.due(Due.NULL, "kind", place);
        }
        D.about("14: another place stays");
        x.call("table", 0, 7, 0, 1);
        x.call("table", 1, 7, 0, 1);
        x.due(1, "clear", 0);
        x.dueTable(1, 1, 2, 0, 1);
    }

    private static void clearBad() {
        D.about("14: BAD");
        Run x = run();
        x.table(0, Due.EULER);
        for (int place : NO_PLACES) {
            x.due(Due.BAD, "clear", place);
        }
        x.due(1, "count", 1);
    }

    private static void number() {
        D.about("15: a(i, j); b(j), if i is s");
        Run x = ladder();
        for (int s : new int[] {1, 2, 8}) {
            x.due(0, "number", s - 1, 0, 0);
            x.due(0, "number", s - 1, s - 1, s - 1);
            x.due(s == 1 ? 0 : 1, "number", s - 1, s - 1, 0);
            x.due(0, "number", s - 1, 0, s - 1);
            x.due(1, "number", s - 1, s, 0);
            x.dueStatus(1, 0, "number", s - 1, s, s - 1);
        }
    }

    private static void numberOfStages() {
        D.about("15: the number of stages, if i is -1 (j is not looked at)");
        Run x = ladder();
        for (int s = 1; s <= 8; s++) {
            for (int j : new int[] {0, -1, s, 99, Due.LEAST, Due.MOST}) {
                x.dueStatus(s, 0, "number", s - 1, -1, j);
            }
        }
    }

    private static void numberRefused() {
        D.about("15: BAD: place");
        Run x = ladder();
        for (int place : NO_PLACES) {
            x.due(Due.BAD, "number", place, 0, 0);
            x.due(Due.BAD, "number", place, -1, 0);
        }
        D.about("15: NULL; then BAD");
        x.dueStatus(Due.NULL, 1, "number", 9, 0, 0);
        x.due(Due.NULL, "number", 9, -1, 0);
        x.due(Due.NULL, "number", 9, -2, 0);
        x.due(Due.NULL, "number", 9, 9, 9);
        D.about("15: then BAD: i, j");
        for (int s : new int[] {1, 2, 8}) {
            for (int i : new int[] {-2, s + 1, Due.LEAST, Due.MOST}) {
                x.dueStatus(Due.BAD, 1, "number", s - 1, i, 0);
            }
            for (int j : new int[] {-1, s, Due.LEAST, Due.MOST}) {
                x.dueStatus(Due.BAD, 1, "number", s - 1, 0, j);
                x.due(Due.BAD, "number", s - 1, s - 1, j);
                x.due(Due.BAD, "number", s - 1, s, j);
            }
        }
        x.due(1, "status");
    }

    // ---- promises 16 to 18

    /** Places 0 to 3: a TABLE, a LOWER, a PLAIN, a KEEPING one; place 4: PLAIN, and it keeps products, too. */
    private static Run fourKinds() {
        Run x = run();
        x.table(0, Due.RADAU);
        x.table(1, Due.BACK_EULER);
        x.table(2, Due.EULER);
        x.table(3, Due.MIDPOINT);
        x.whole(4, 0, 0);
        return x;
    }

    private static void kind() {
        D.about("16: The KIND of a TABLE, as it is told");
        Run x = fourKinds();
        for (int kind = 0; kind < 4; kind++) {
            x.dueStatus(kind, 0, "kind", kind);
        }
        x.due(2, "kind", 4);
        D.about("16: BAD");
        for (int place : NO_PLACES) {
            x.dueStatus(Due.BAD, 0, "kind", place);
        }
        D.about("16: NULL");
        x.dueStatus(Due.NULL, 1, "kind", 9);
        x.call("clear", 4);
        x.due(Due.NULL, "kind", 4);
    }

    private static final int[][] IS = {{1, 0, 0, 0}, {1, 1, 0, 0}, {1, 1, 1, 0}, {1, 0, 0, 1}, {1, 1, 1, 0}};

    private static void is() {
        D.about("17: the one as which it is told, or one that this is, too: 1, 0");
        Run x = fourKinds();
        for (int place = 0; place < 5; place++) {
            for (int kind = 0; kind < 4; kind++) {
                x.due(IS[place][kind], "is", place, kind);
            }
        }
    }

    private static void isOfNothing() {
        D.about("17: of nothing 0");
        Run x = fourKinds();
        for (int kind = 0; kind < 4; kind++) {
            x.dueStatus(0, 0, "is", 9, kind);
        }
        x.call("clear", 2);
        x.due(0, "is", 2, 2);
    }

    private static void isBad() {
        D.about("17: BAD");
        Run x = fourKinds();
        for (int place : NO_PLACES) {
            x.due(Due.BAD, "is", place, 0);
        }
        for (int kind : new int[] {-1, 4, Due.LEAST, Due.MOST}) {
            x.due(Due.BAD, "is", 0, kind);
            x.due(Due.BAD, "is", 9, kind);
        }
    }

    private static void as() {
        D.about("18: its stages; KIND: it is not that, too");
        Run x = fourKinds();
        int[] stages = {2, 1, 1, 1, 1};
        for (int place = 0; place < 5; place++) {
            for (int kind = 0; kind < 4; kind++) {
                boolean is = IS[place][kind] == 1;
                x.dueStatus(is ? stages[place] : Due.KIND, is ? 0 : 3, "as", place, kind);
            }
        }
        Run y = ladder();
        y.due(8, "as", 7, 2);
        y.due(Due.KIND, "as", 7, 3);
    }

    private static void asRefused() {
        D.about("18: BAD");
        Run x = fourKinds();
        for (int place : NO_PLACES) {
            x.dueStatus(Due.BAD, 0, "as", place, 0);
        }
        for (int kind : new int[] {-1, 4, Due.LEAST, Due.MOST}) {
            x.dueStatus(Due.BAD, 0, "as", 0, kind);
            D.about("18: BAD ahead of NULL");
            x.due(Due.BAD, "as", 9, kind);
        }
        D.about("18: NULL");
        for (int kind = 0; kind < 4; kind++) {
            x.call("kind", 0);
            x.dueStatus(Due.NULL, 1, "as", 9, kind);
        }
    }

    // ---- promises 19 and 20

    private static void ask() {
        D.about("19: An ASK (0, 1) of a TABLE");
        Run x = fourKinds();
        int[] sizes = {2, 101, 202, 13, 202};
        int[] marks = {3, 102, 203, 12, 202};
        for (int place = 0; place < 5; place++) {
            x.dueStatus(sizes[place], 0, "ask", place, 0);
            x.dueStatus(marks[place], 0, "ask", place, 1);
        }
        D.about("19: THE TRACE is empty ahead of it");
        x.call("ask", 2, 1);
        x.due(10, "trace", 4);
        x.call("ask", 0, 0);
        x.due(10, "trace", 0);
        x.due(Due.NONE, "trace", 1);
        x.due(Due.NONE, "trace", 4);
    }

    private static void askRefused() {
        D.about("19: BAD; THE TRACE is empty ahead of it, if it is not BAD");
        Run x = fourKinds();
        x.call("ask", 2, 1);
        for (int place : NO_PLACES) {
            x.dueStatus(Due.BAD, 0, "ask", place, 0);
        }
        for (int what : new int[] {-1, 2, Due.LEAST, Due.MOST}) {
            x.dueStatus(Due.BAD, 0, "ask", 0, what);
            x.dueStatus(Due.BAD, 0, "ask", 9, what);
        }
        x.due(21, "trace", 0);
        x.due(10, "trace", 4);
        D.about("19: NULL: THE TRACE is empty then");
        x.dueStatus(Due.NULL, 1, "ask", 9, 0);
        x.due(Due.NONE, "trace", 0);
        x.call("ask", 2, 1);
        x.due(21, "trace", 0);
        x.dueStatus(Due.NULL, 1, "ask", 9, 1);
        x.due(Due.NONE, "trace", 0);
    }

    private static void trace() {
        D.about("20: Number i of THE TRACE; NONE");
        Run x = run();
        for (int i : new int[] {-1, 0, 1, 15, 16, Due.LEAST, Due.MOST}) {
            x.due(Due.NONE, "trace", i);
        }
        x.table(0, Due.EULER);
        x.due(Due.NONE, "trace", 0);
        x.call("ask", 0, 1);
        int[] bodies = {21, 20, 12, 11, 10};
        for (int i = 0; i < 5; i++) {
            x.due(bodies[i], "trace", i);
        }
        for (int i : new int[] {-1, 5, 6, 15, 16, Due.LEAST, Due.MOST}) {
            x.due(Due.NONE, "trace", i);
        }
        D.about("20: no other call changes THE TRACE");
        x.call("order", 0, 0);
        x.call("as", 0, 3);
        x.call("clear", 0);
        x.call("table", 0, 7, 0, 1);
        for (int i = 0; i < 5; i++) {
            x.due(bodies[i], "trace", i);
        }
    }
}
