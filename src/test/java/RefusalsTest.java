import java.util.ArrayList;
import java.util.List;

/**
 * "What is refused, or found, changes nothing but status() (and THE TRACE, by ask())": each refusal of each call is made
 * on one of two twins, and then all that can be seen of both is the same.
 */
public final class RefusalsTest {
    private static final Due D = new Due();
    private static final int MARKED = 3;
    // of the sheets that ready() makes
    private static final int[] LANES = {2, 0, 1, 2, -1, -1, -1, 2};
    private static final int[] LENGTHS = {5, 3, 3, 0, -1, -1, -1, 4};

    public static void main(String[] args) {
        sheets();
        trees();
        tables();
        made();
        kinds();
        judged();
        looks();
        D.end();
    }

    /**
     * Sheets 0 (longs), 1 (bytes), 2 (ints), 3 (longs, of no items); sheet 7 has a table's fractions, sheet 0 a lower
     * number 0. Places 0 to 3: PLAIN, KEEPING, TABLE, LOWER; 4: of 8 stages, 5 of 4. THE TRACE has five numbers, and
     * status() tells KIND.
     */
    private static Run ready() {
        Run x = new Run(D, 998244353);
        x.call("sheet", 0, 2, 5);
        for (int i = 0; i < 4; i++) {
            x.call("set", 0, i, i == 3 ? 0 : 1L << 20 * i);
        }
        for (int lane = 0; lane < 2; lane++) {
            x.call("sheet", 1 + lane, lane, 3);
            x.call("set", 1 + lane, 0, -7);
            x.call("set", 1 + lane, 2, 99);
        }
        x.call("sheet", 3, 2, 0);
        x.table(5, Due.RUNGE);
        x.call("behind", 4, 5, 5);
        x.table(0, Due.EULER);
        x.table(2, Due.RADAU);
        x.table(3, Due.BACK_EULER);
        x.table(1, Due.MIDPOINT);
        x.call("ask", 5, 1);
        x.call("as", 0, 3);
        return x;
    }

    /**
     * All that can be seen but status(); what it takes to see the sheets spoils the object. Calls that are found come
     * last, as they would do to the twin, too, what they must not do.
     */
    private static List<List<Long>> seen(Run x) {
        List<List<Long>> seen = new ArrayList<>();
        List<Long> counts = new ArrayList<>();
        for (int what = 0; what <= 5; what++) {
            counts.add(x.call("count", what));
        }
        seen.add(counts);
        List<Long> trace = new ArrayList<>();
        for (int i = 0; i < 6; i++) {
            trace.add(x.call("trace", i));
        }
        seen.add(trace);
        for (int place = 0; place < 10; place++) {
            seen.add(placeSeen(x, place));
        }
        for (int sheet : new int[] {0, 1, 2, 7}) {
            seen.add(items(x, sheet));
        }
        for (int sheet = 0; sheet < 8; sheet++) {
            seen.add(List.of(x.call("drop", sheet)));
        }
        return seen;
    }

    private static List<Long> placeSeen(Run x, int place) {
        if (x.call("is", place, 0) != 1) {
            return List.of();
        }
        List<Long> seen = x.seen(place);
        seen.add(x.call("order", place, 1));
        return seen;
    }

    /** All items of a sheet that ready() made, by way of sheet 6 (of the same lane) and place 9. */
    private static List<Long> items(Run x, int sheet) {
        List<Long> seen = new ArrayList<>();
        x.call("sheet", 6, LANES[sheet], 4);
        x.call("set", 6, 1, 1);
        x.call("set", 6, 3, 1);
        for (int i = 0; i < LENGTHS[sheet]; i++) {
            seen.add(x.call("copy", sheet, i, 6, 0, 1));
            x.call("table", 9, 6, 0, 1);
            seen.add(x.call("number", 9, 0, 0));
        }
        return seen;
    }

    private static void refused(long want, String name, long... v) {
        Run x = ready();
        Run twin = ready();
        D.about(Run.text(name, v));
        x.due(want, name, v);
        x.due(want <= Due.NULL && want >= Due.STORE ? -1000010 - want : MARKED, "status");
        List<List<Long>> due = seen(twin);
        if (name.equals("ask") && want == Due.NULL) {
            due.set(1, new ArrayList<>(java.util.Collections.nCopies(6, (long) Due.NONE)));
        }
        D.same("all that can be seen", seen(x), due);
    }

    /** Each place of the arguments in turn takes what is BAD there. */
    private static void bad(String name, long[] well, int... bounds) {
        for (int at = 0; at < well.length; at++) {
            long[] wrongs = {bounds[2 * at] - 1L, bounds[2 * at + 1] + 1L, Due.LEAST, Due.MOST};
            for (long wrong : wrongs) {
                long[] v = well.clone();
                v[at] = wrong;
                boolean looked = wrong >= Due.LEAST && wrong <= Due.MOST && bounds[2 * at] <= bounds[2 * at + 1];
                if (looked && (wrong < bounds[2 * at] || wrong > bounds[2 * at + 1])) {
                    refused(Due.BAD, name, v);
                }
            }
        }
    }

    private static void sheets() {
        bad("sheet", new long[] {0, 0, 1}, 0, 7, 0, 2, Due.LEAST, 80);
        refused(Due.SIZE, "sheet", 0, 0, -1);
        refused(Due.SIZE, "sheet", 4, 2, -1);
        refused(Due.SIZE, "sheet", 7, 2, Due.LEAST);
        bad("set", new long[] {0, 0, 1}, 0, 7, 1, 0, 1, 0);
        refused(Due.NULL, "set", 4, 0, 1);
        refused(Due.PLACE, "set", 0, 5, 1);
        refused(Due.PLACE, "set", 1, -1, 1);
        refused(Due.PLACE, "set", 3, 0, 1);
        bad("copy", new long[] {0, 0, 7, 0, 1}, 0, 7, 1, 0, 0, 7, 1, 0, 1, 0);
        refused(Due.NULL, "copy", 0, 0, 4, 0, 1);
        refused(Due.NULL, "copy", 4, 0, 0, 0, 1);
        refused(Due.STORE, "copy", 0, 0, 1, 0, 1);
        refused(Due.STORE, "copy", 2, 0, 1, 0, 1);
        refused(Due.PLACE, "copy", 0, 0, 0, 1, 5);
        refused(Due.PLACE, "copy", 0, 1, 7, 0, 5);
        refused(Due.PLACE, "copy", 7, 0, 0, 2, 4);
        refused(Due.PLACE, "copy", 0, -1, 7, 0, 2);
        refused(Due.PLACE, "copy", 0, 0, 7, -1, 2);
        refused(Due.PLACE, "copy", 0, 0, 7, 0, -1);
        bad("drop", new long[] {0}, 0, 7);
        refused(Due.NULL, "drop", 4);
    }

    private static void trees() {
        bad("trees", new long[] {1}, 1, 6);
        bad("tree", new long[] {0, 0}, 0, 36, 0, 3);
        bad("level", new long[] {0, 0}, 0, 36, 1, 0);
        bad("hang", new long[] {0, 0}, 0, 36, 0, 36);
        refused(Due.NONE, "level", 0, 1);
        refused(Due.NONE, "level", 36, -1);
        refused(Due.NONE, "hang", 36, 0);
    }

    private static void tables() {
        bad("table", new long[] {0, 7, 0, 1}, 0, 9, 0, 7, 1, 0, 1, 4);
        refused(Due.NULL, "table", 0, 4, 0, 1);
        refused(Due.NULL, "table", 9, 5, 0, 1);
        refused(Due.PLACE, "table", 1, 7, 1, 1);
        refused(Due.PLACE, "table", 9, 7, -1, 1);
        refused(Due.PLACE, "table", 2, 7, 0, 2);
        refused(Due.PLACE, "table", 2, 3, 0, 1);
        refused(Due.BAD, "table", 1, 0, 0, 1);
        refused(Due.BAD, "table", 9, 0, 0, 1);
        refused(Due.BAD, "table", 9, 0, 1, 1);
    }

    private static void made() {
        bad("behind", new long[] {0, 0, 0}, 0, 9, 0, 9, 0, 9);
        refused(Due.NULL, "behind", 0, 9, 0);
        refused(Due.NULL, "behind", 0, 0, 9);
        refused(Due.NULL, "behind", 9, 9, 9);
        refused(Due.FULL, "behind", 0, 4, 0);
        refused(Due.FULL, "behind", 9, 0, 4);
        refused(Due.FULL, "behind", 4, 4, 4);
        bad("turn", new long[] {0, 0, 0}, 0, 9, 0, 9, 0, 1);
        refused(Due.NULL, "turn", 0, 9, 0);
        refused(Due.NULL, "turn", 9, 9, 1);
        bad("scale", new long[] {0, 0, 0}, 0, 9, 0, 9, 0, 998244352);
        refused(Due.NULL, "scale", 0, 9, 0);
        refused(Due.NULL, "scale", 9, 9, 1);
        bad("clear", new long[] {0}, 0, 9);
    }

    private static void kinds() {
        bad("number", new long[] {5, 0, 0}, 0, 9, -1, 4, 0, 3);
        refused(Due.NULL, "number", 9, 0, 0);
        bad("kind", new long[] {0}, 0, 9);
        refused(Due.NULL, "kind", 9);
        bad("is", new long[] {0, 0}, 0, 9, 0, 3);
        bad("as", new long[] {0, 0}, 0, 9, 0, 3);
        refused(Due.NULL, "as", 9, 0);
        refused(Due.KIND, "as", 2, 1);
        refused(Due.KIND, "as", 3, 2);
        refused(Due.KIND, "as", 1, 1);
        bad("ask", new long[] {0, 0}, 0, 9, 0, 1);
        refused(Due.NULL, "ask", 9, 0);
        refused(Due.NULL, "ask", 9, 1);
        refused(Due.NONE, "trace", -1);
        refused(Due.NONE, "trace", 5);
        refused(Due.NONE, "trace", 16);
    }

    private static void judged() {
        bad("weight", new long[] {0, 0}, 0, 9, 0, 36);
        refused(Due.NULL, "weight", 9, 0);
        bad("order", new long[] {0, 0}, 0, 9, 0, 1);
        refused(Due.NULL, "order", 9, 0);
        bad("share", new long[] {0, 0, 0}, 0, 9, 0, 1, 0, 8);
        refused(Due.NULL, "share", 9, 0, 0);
        bad("ride", new long[] {0, 0, 0, 0}, 0, 9, 0, 9, 0, 1000, 0, 998244352);
        refused(Due.NULL, "ride", 9, 0, 1, 1);
        bad("alike", new long[] {0, 0, 1}, 0, 9, 0, 9, 1, 6);
        refused(Due.NULL, "alike", 9, 0, 1);
        refused(Due.NULL, "alike", 0, 9, 1);
        bad("count", new long[] {0}, 0, 5);
    }

    /** What only looks changes nothing but status(), too. */
    private static void looks() {
        looked(4, "number", 5, -1, 0);
        looked(2, "kind", 0);
        looked(4, "as", 5, 2);
        looked(1, "weight", 5, 0);
        looked(8, "order", 5, 1);
        looked(1, "share", 4, 0, 0);
        looked(1, "share", 4, 1, 0);
        looked(1000, "ride", 5, 0, 1000, 1);
        looked(1, "alike", 4, 4, 6);
        looked(0, "copy", 0, 0, 7, 0, 0);
    }

    private static void looked(long want, String name, long... v) {
        Run x = ready();
        Run twin = ready();
        D.about(Run.text(name, v));
        x.due(want, name, v);
        x.due(0, "status");
        D.same("all that can be seen", seen(x), seen(twin));
    }
}
