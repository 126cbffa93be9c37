/** What all tests share: calls with the answers that are due, and tables to begin with. */
final class Due {
    static final int NONE = -1000000, BAD = -1000001, FULL = -1000003;
    static final int NULL = -1000011, PLACE = -1000012, KIND = -1000013, SIZE = -1000014, STORE = -1000015;
    static final int LEAST = Integer.MIN_VALUE, MOST = Integer.MAX_VALUE;

    // items of tables: fractions, each by two numbers
    static final long[] EULER = {0, 1, 1, 1};
    static final long[] BACK_EULER = {1, 1, 1, 1};
    static final long[] MIDPOINT = {1, 2, 1, 1};
    /** Of order 3; neither lower nor keeping. */
    static final long[] RADAU = {5, 12, -1, 12, 3, 4, 1, 4, 3, 4, 1, 4};
    /** Of order 4. */
    static final long[] RUNGE = {0, 1, 0, 1, 0, 1, 0, 1,
        1, 2, 0, 1, 0, 1, 0, 1,
        0, 1, 1, 2, 0, 1, 0, 1,
        0, 1, 0, 1, 1, 1, 0, 1,
        1, 6, 1, 3, 1, 3, 1, 6};

    private String about = "";
    private int wrong = 0;
    private int asked = 0;

    /** The words of the document that the next answers are about. */
    void about(String words) {
        about = words;
    }

    void due(String call, long got, long want) {
        asked++;
        if (got != want) {
            tell(call, Long.toString(got), Long.toString(want));
        }
    }

    void same(String what, Object got, Object want) {
        asked++;
        if (!got.equals(want)) {
            tell(what, got.toString(), want.toString());
        }
    }

    private void tell(String what, String got, String want) {
        wrong++;
        System.out.println((about.isEmpty() ? "" : "[" + about + "] ") + what + " answered " + got + ", due is " + want);
    }

    void end() {
        System.out.println(asked + " answers looked at, " + wrong + " wrong");
        if (wrong != 0) {
            System.exit(1);
        }
    }

    /** The table of order 5 by Radau, modulo a prime where a number times itself is 6. */
    static long[] radauFive(long r) {
        return new long[] {88 - 7 * r, 360, 296 - 169 * r, 1800, -2 + 3 * r, 225,
            296 + 169 * r, 1800, 88 + 7 * r, 360, -2 - 3 * r, 225,
            16 - r, 36, 16 + r, 36, 1, 9,
            16 - r, 36, 16 + r, 36, 1, 9};
    }

    /** The table of order 6 by Gauss, modulo a prime where a number times itself is 15. */
    static long[] gauss(long r) {
        return new long[] {5, 36, 2 * 15 - 9 * r, 9 * 15, 5 * 5 - 6 * r, 36 * 5,
            5 * 2 + 3 * r, 72, 2, 9, 5 * 2 - 3 * r, 72,
            5 * 5 + 6 * r, 36 * 5, 2 * 15 + 9 * r, 9 * 15, 5, 36,
            5, 18, 4, 9, 5, 18};
    }

    static long[] byOne(long... numbers) {
        long[] items = new long[2 * numbers.length];
        for (int i = 0; i < numbers.length; i++) {
            items[2 * i] = numbers[i];
            items[2 * i + 1] = 1;
        }
        return items;
    }

    /** Sheet 7 becomes a row of longs. */
    static void fill(TreeSteps x, long... items) {
        x.sheet(7, 2, items.length);
        for (int i = 0; i < items.length; i++) {
            x.set(7, i, items[i]);
        }
    }

    /** A table of whole numbers (each by 1), and the answer of table(). */
    static int whole(TreeSteps x, int place, int s, long... numbers) {
        fill(x, byOne(numbers));
        return x.table(place, 7, 0, s);
    }

    static int euler(TreeSteps x, int place) {
        return made(x, place, 1, EULER);
    }

    static int backEuler(TreeSteps x, int place) {
        return made(x, place, 1, BACK_EULER);
    }

    static int midpoint(TreeSteps x, int place) {
        return made(x, place, 1, MIDPOINT);
    }

    static int radau(TreeSteps x, int place) {
        return made(x, place, 2, RADAU);
    }

    static int runge(TreeSteps x, int place) {
        return made(x, place, 4, RUNGE);
    }

    /** Modulo 103, where 18 times 18 is 15. */
    static int gauss(TreeSteps x, int place) {
        return made(x, place, 3, gauss(18));
    }

    private static int made(TreeSteps x, int place, int s, long[] items) {
        fill(x, items);
        return x.table(place, 7, 0, s);
    }
}
