import java.util.Random;

/** Long random runs: each answer of the class against that of the Model. */
public final class ModelTest {
    private static final Due D = new Due();
    private static final int[] PRIMES = {101, 103, 109, 1000003, 998244353, 1999999973, 4, 2147483647};
    private static final String[] NAMES = {"sheet", "set", "copy", "drop", "table", "behind", "turn", "scale", "clear",
        "number", "kind", "is", "as", "ask", "trace", "weight", "order", "share", "ride", "alike", "count"};
    // how often a name is called, in parts of their sum
    private static final int[] OFTEN = {3, 4, 4, 1, 4, 8, 5, 4, 2, 10, 3, 5, 5, 6, 8, 10, 5, 14, 4, 6, 3};

    private final Random random;
    private final Run x;
    private final Model model;
    private final int p;
    private final int run;

    private ModelTest(int run) {
        this.run = run;
        random = new Random(run);
        int wanted = PRIMES[run % PRIMES.length];
        x = new Run(D, wanted);
        model = new Model(wanted);
        p = (int) x.call("count", 5);
    }

    public static void main(String[] args) {
        for (int run = 0; run < 600; run++) {
            new ModelTest(run).ride();
        }
        D.end();
    }

    private void ride() {
        // fillTable() makes 52 calls at most
        while (x.left() >= 52) {
            if (random.nextInt(12) == 0) {
                fillTable();
            } else {
                call(pickName());
            }
        }
    }

    private String pickName() {
        int sum = 0;
        for (int often : OFTEN) {
            sum += often;
        }
        int left = random.nextInt(sum);
        int at = 0;
        while (left >= OFTEN[at]) {
            left -= OFTEN[at++];
        }
        return NAMES[at];
    }

    private void look(String name, long... v) {
        String text = "run " + run + ": " + Run.text(name, v);
        D.due(text, x.call(name, v), model.call(name, v));
        D.due(text + ", then status()", x.call("status"), model.call("status"));
    }

    /** A sheet of a table of some kind, and the table. */
    private void fillTable() {
        int s = 1 + random.nextInt(3);
        int shape = random.nextInt(6);
        int many = s * s + s;
        long[] items = new long[2 * many];
        for (int k = 0; k < many; k++) {
            int i = k / s;
            int j = k % s;
            boolean zero = shape == 0 && j >= i && i < s || shape == 1 && j > i && i < s;
            items[2 * k] = zero ? 0 : random.nextInt(7) - 3;
            items[2 * k + 1] = 1 + random.nextInt(4);
        }
        if (shape >= 4) {
            keep(items, s);
        }
        look("sheet", 0, 2, items.length);
        for (int k = 0; k < items.length; k++) {
            if (items[k] != 0) {
                look("set", 0, k, items[k]);
            }
        }
        look("table", random.nextInt(10), 0, 0, s);
    }

    /** Steps of midpoints, one behind the other, keep products. */
    private void keep(long[] items, int s) {
        for (int k = 0; k < s * s; k++) {
            int i = k / s;
            int j = k % s;
            long upper = items[2 * (s * s + j)];
            long lower = items[2 * (s * s + j) + 1];
            items[2 * k] = j > i ? 0 : upper;
            items[2 * k + 1] = i == j ? 2 * lower : lower;
        }
    }

    private int place() {
        return odd() ? wild() : random.nextInt(10);
    }

    private int sheetNumber() {
        return odd() ? wild() : random.nextInt(4);
    }

    private boolean odd() {
        return random.nextInt(40) == 0;
    }

    private int wild() {
        int[] edges = {-1, -2, 8, 9, 10, 11, 36, 37, 80, 81, 1000, 1001, Integer.MAX_VALUE, Integer.MIN_VALUE};
        return edges[random.nextInt(edges.length)];
    }

    private int within(int least, int greatest) {
        return odd() ? wild() : random.nextInt(15) == 0 ? least - 1 : random.nextInt(15) == 0 ? greatest + 1
                : least + random.nextInt(greatest - least + 1);
    }

    private int modular() {
        int[] some = {0, 1, 2, p - 1, p, -1, p / 2, p / 2 + 1};
        return random.nextInt(3) == 0 ? some[random.nextInt(some.length)] : random.nextInt(p);
    }

    private void call(String name) {
        switch (name) {
            case "sheet": look(name, sheetNumber(), within(0, 2), within(0, 80)); break;
            case "set": look(name, sheetNumber(), within(0, 40), random.nextLong() >> random.nextInt(64)); break;
            case "copy": look(name, sheetNumber(), within(0, 20), sheetNumber(), within(0, 20), within(0, 20)); break;
            case "drop": look(name, sheetNumber()); break;
            case "table": look(name, place(), sheetNumber(), within(0, 12), within(1, 4)); break;
            case "behind": look(name, place(), place(), place()); break;
            case "turn": look(name, place(), place(), within(0, 1)); break;
            case "scale": look(name, place(), place(), modular()); break;
            case "number": look(name, place(), within(-1, 8), within(0, 7)); break;
            case "is": case "as": look(name, place(), within(0, 3)); break;
            case "ask": case "order": look(name, place(), within(0, 1)); break;
            case "trace": look(name, within(0, 5)); break;
            case "weight": look(name, place(), within(0, 36)); break;
            case "share": look(name, place(), within(0, 1), within(0, 8)); break;
            case "ride": look(name, place(), within(0, 9), odd() ? 1000 : within(0, 30), modular()); break;
            case "alike": look(name, place(), place(), within(1, 6)); break;
            case "count": look(name, within(0, 5)); break;
            default: look(name, place()); break;
        }
    }
}
