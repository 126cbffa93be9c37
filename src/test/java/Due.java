/** What all tests share: calls with the answers that are due, and tables to begin with. */
final class Due {
    static final int NONE = -1000000, BAD = -1000001, FULL = -1000003;
    static final int NULL = -1000011, PLACE = -1000012, KIND = -1000013, SIZE = -1000014, STORE = -1000015;

    private int wrong = 0;
    private int asked = 0;

    void due(String call, long got, long want) {
        asked++;
        if (got != want) {
            wrong++;
            System.out.println(call + " answered " + got + ", due is " + want);
        }
    }

    void end() {
        System.out.println(asked + " answers looked at, " + wrong + " wrong");
        if (wrong != 0) {
            System.exit(1);
        }
    }

    /** Sheet 7 becomes a row of longs. */
    static void fill(TreeSteps x, long... items) {
        x.sheet(7, 2, items.length);
        for (int i = 0; i < items.length; i++) {
            x.set(7, i, items[i]);
        }
    }

    /** A table of whole numbers (each by 1), and the answer of table(). */
    static int whole(TreeSteps x, int place, int s, long... numbers) {
        long[] items = new long[2 * numbers.length];
        for (int i = 0; i < numbers.length; i++) {
            items[2 * i] = numbers[i];
            items[2 * i + 1] = 1;
        }
        fill(x, items);
        return x.table(place, 7, 0, s);
    }

    static int euler(TreeSteps x, int place) {
        return whole(x, place, 1, 0, 1);
    }

    static int backEuler(TreeSteps x, int place) {
        return whole(x, place, 1, 1, 1);
    }

    static int midpoint(TreeSteps x, int place) {
        fill(x, 1, 2, 1, 1);
        return x.table(place, 7, 0, 1);
    }

    /** The table of order 3 by Radau: neither lower nor keeping. */
    static int radau(TreeSteps x, int place) {
        fill(x, 5, 12, -1, 12, 3, 4, 1, 4, 3, 4, 1, 4);
        return x.table(place, 7, 0, 2);
    }

    static int runge(TreeSteps x, int place) {
        fill(x, 0, 1, 0, 1, 0, 1, 0, 1,
                1, 2, 0, 1, 0, 1, 0, 1,
                0, 1, 1, 2, 0, 1, 0, 1,
                0, 1, 0, 1, 1, 1, 0, 1,
                1, 6, 1, 3, 1, 3, 1, 6);
        return x.table(place, 7, 0, 4);
    }

    /** The table of order 6 by Gauss, modulo 103, where 18 times 18 is 15. */
    static int gauss(TreeSteps x, int place) {
        fill(x, 5, 36, 2 * 15 - 9 * 18, 9 * 15, 5 * 5 - 6 * 18, 36 * 5,
                5 * 2 + 3 * 18, 72, 2, 9, 5 * 2 - 3 * 18, 72,
                5 * 5 + 6 * 18, 36 * 5, 2 * 15 + 9 * 18, 9 * 15, 5, 36,
                5, 18, 4, 9, 5, 18);
        return x.table(place, 7, 0, 3);
    }
}
