/** Promises 1 to 5, and what status() and count() say of them. */
public final class SheetsTest {
    private static final Due D = new Due();

    public static void main(String[] args) {
        newObject();
        sheet();
        set();
        copy();
        copyFindings();
        drop();
        D.end();
    }

    private static void newObject() {
        int[] kept = {101, 103, 998244353, 1999999973, 1000003, 44711};
        for (int p : kept) {
            D.due("count(5) of " + p, new TreeSteps(p).count(5), p);
        }
        int[] others = {97, 100, 102, 99, 0, 1, 2, -1, -101, 10201, 10403, 1999073521, 1999999999, 2000000000,
            2000000011, 2147483647, Integer.MIN_VALUE, 121, 169, 105, 1105, 128, 202,
            1999999946};
        for (int p : others) {
            D.due("count(5) of " + p, new TreeSteps(p).count(5), 998244353);
        }
        TreeSteps x = new TreeSteps(101);
        D.due("status()", x.status(), 0);
        D.due("trace(0)", x.trace(0), Due.NONE);
        for (int what = 0; what < 5; what++) {
            D.due("count of nothing", x.count(what), 0);
        }
        for (int i = 0; i < 8; i++) {
            D.due("drop of a missing one", x.drop(i), Due.NULL);
        }
        for (int i = 0; i < 10; i++) {
            D.due("kind of an empty place", x.kind(i), Due.NULL);
        }
    }

    private static void sheet() {
        TreeSteps x = new TreeSteps(101);
        D.due("sheet(0, 0, 80)", x.sheet(0, 0, 80), 80);
        D.due("sheet(7, 2, 0)", x.sheet(7, 2, 0), 0);
        D.due("count(0)", x.count(0), 2);
        D.due("sheet(-1, 0, 1)", x.sheet(-1, 0, 1), Due.BAD);
        D.due("sheet(8, 0, 1)", x.sheet(8, 0, 1), Due.BAD);
        D.due("sheet(1, -1, 1)", x.sheet(1, -1, 1), Due.BAD);
        D.due("sheet(1, 3, -1)", x.sheet(1, 3, -1), Due.BAD);
        D.due("sheet(8, 0, -1)", x.sheet(8, 0, -1), Due.BAD);
        D.due("sheet(1, 0, 81)", x.sheet(1, 0, 81), Due.BAD);
        D.due("status()", x.status(), 0);
        D.due("sheet(0, 1, -1)", x.sheet(0, 1, -1), Due.SIZE);
        D.due("status()", x.status(), 4);
        D.due("sheet(0, 1, min)", x.sheet(0, 1, Integer.MIN_VALUE), Due.SIZE);
        D.due("set behind SIZE", x.set(0, 79, 300), 44);
        D.due("sheet(1, 0, max)", x.sheet(1, 0, Integer.MAX_VALUE), Due.BAD);
        D.due("count(0)", x.count(0), 2);
        x.set(0, 0, 5);
        x.set(0, 1, 1);
        x.sheet(0, 2, 4);
        x.set(0, 1, 1);
        x.set(0, 3, 1);
        D.due("table of a new sheet", x.table(0, 0, 0, 1), 2);
        D.due("items are 0 at first", x.number(0, 0, 0), 0);
    }

    private static void set() {
        TreeSteps x = new TreeSteps(101);
        D.due("set(8, ..)", x.set(8, 0, 1), Due.BAD);
        D.due("set(-1, ..)", x.set(-1, 0, 1), Due.BAD);
        D.due("set of a missing one", x.set(0, -1, 1), Due.NULL);
        D.due("status()", x.status(), 1);
        for (int lane = 0; lane < 3; lane++) {
            x.sheet(lane, lane, 3);
        }
        D.due("bytes 127", x.set(0, 0, 127), 127);
        D.due("status()", x.status(), 0);
        D.due("bytes 128", x.set(0, 0, 128), -128);
        D.due("bytes -129", x.set(0, 0, -129), 127);
        D.due("bytes 256", x.set(0, 2, 256), 0);
        D.due("ints", x.set(1, 0, 1L << 31), Integer.MIN_VALUE);
        D.due("ints", x.set(1, 0, (1L << 32) + 7), 7);
        D.due("ints", x.set(1, 0, 128), 128);
        D.due("longs", x.set(2, 0, Long.MIN_VALUE), Long.MIN_VALUE);
        D.due("longs", x.set(2, 0, (1L << 32) + 7), (1L << 32) + 7);
        D.due("set(0, 3, 1)", x.set(0, 3, 1), Due.PLACE);
        D.due("status()", x.status(), 2);
        D.due("an item that looks like a finding", x.set(2, 2, -1000011), -1000011);
        D.due("status()", x.status(), 0);
        D.due("set(0, -1, 1)", x.set(0, -1, 1), Due.PLACE);
        D.due("an item that looks like BAD", x.set(2, 2, -1000001), -1000001);
        D.due("status()", x.status(), 0);
        D.due("set(0, max, 1)", x.set(0, Integer.MAX_VALUE, 1), Due.PLACE);
        D.due("set(9, 0, 1)", x.set(9, 0, 1), Due.BAD);
        D.due("BAD leaves status()", x.status(), 2);
        x.sheet(3, 0, 0);
        D.due("set of an empty sheet", x.set(3, 0, 1), Due.PLACE);
    }

    /** Reads an item by way of a table. */
    private static int read(TreeSteps x, int sheet, int i) {
        x.sheet(6, 2, 4);
        x.set(6, 1, 1);
        x.set(6, 3, 1);
        x.copy(sheet, i, 6, 0, 1);
        x.table(9, 6, 0, 1);
        return x.number(9, 0, 0);
    }

    private static void copy() {
        TreeSteps x = new TreeSteps(101);
        x.sheet(0, 2, 6);
        for (int i = 0; i < 6; i++) {
            x.set(0, i, i + 1);
        }
        D.due("copy to behind", x.copy(0, 0, 0, 2, 4), 4);
        int[] right = {1, 2, 1, 2, 3, 4};
        for (int i = 0; i < 6; i++) {
            D.due("item " + i, read(x, 0, i), right[i]);
        }
        D.due("copy to ahead", x.copy(0, 1, 0, 0, 5), 5);
        int[] left = {2, 1, 2, 3, 4, 4};
        for (int i = 0; i < 6; i++) {
            D.due("item " + i, read(x, 0, i), left[i]);
        }
        x.sheet(1, 2, 2);
        D.due("copy to another", x.copy(0, 3, 1, 1, 1), 1);
        D.due("item", read(x, 1, 0), 0);
        D.due("item", read(x, 1, 1), 3);
        D.due("copy of none at an end", x.copy(0, 6, 1, 2, 0), 0);
        D.due("status()", x.status(), 0);
    }

    private static void copyFindings() {
        TreeSteps x = new TreeSteps(101);
        x.sheet(0, 2, 6);
        x.sheet(1, 2, 2);
        x.sheet(2, 1, 6);
        D.due("copy(8, ..)", x.copy(8, 0, 0, 0, 0), Due.BAD);
        D.due("copy(0, 0, -1, ..)", x.copy(0, 0, -1, 0, 0), Due.BAD);
        D.due("copy of a missing one", x.copy(3, -1, 0, 0, 1), Due.NULL);
        D.due("copy to a missing one", x.copy(0, -1, 3, 0, 1), Due.NULL);
        D.due("copy of two lanes", x.copy(0, 0, 2, 0, 1), Due.STORE);
        D.due("status()", x.status(), 5);
        D.due("STORE ahead of PLACE", x.copy(0, -1, 2, 9, -1), Due.STORE);
        D.due("i below 0", x.copy(0, -1, 1, 0, 1), Due.PLACE);
        D.due("status()", x.status(), 2);
        D.due("j below 0", x.copy(0, 0, 1, -1, 1), Due.PLACE);
        D.due("n below 0", x.copy(0, 0, 1, 0, -1), Due.PLACE);
        D.due("beyond the end of a", x.copy(1, 1, 0, 0, 2), Due.PLACE);
        D.due("beyond the end of b", x.copy(0, 0, 1, 1, 2), Due.PLACE);
        D.due("none from beyond", x.copy(0, 7, 1, 0, 0), Due.PLACE);
        D.due("none to beyond", x.copy(0, 0, 1, 3, 0), Due.PLACE);
        D.due("sums that wrap", x.copy(0, 5, 0, 5, Integer.MAX_VALUE), Due.PLACE);
        D.due("sums that wrap", x.copy(0, Integer.MAX_VALUE, 0, 0, 2), Due.PLACE);
        D.due("sums that wrap", x.copy(0, 0, 0, Integer.MAX_VALUE, 2), Due.PLACE);
    }

    private static void drop() {
        TreeSteps x = new TreeSteps(101);
        x.sheet(3, 1, 17);
        D.due("drop(3)", x.drop(3), 17);
        D.due("count(0)", x.count(0), 0);
        D.due("drop(3)", x.drop(3), Due.NULL);
        D.due("status()", x.status(), 1);
        D.due("drop(8)", x.drop(8), Due.BAD);
        D.due("drop(-1)", x.drop(-1), Due.BAD);
        x.sheet(3, 0, 0);
        D.due("drop of an empty one", x.drop(3), 0);
        D.due("status()", x.status(), 0);
        D.due("set of a dropped one", x.set(3, 0, 1), Due.NULL);
    }
}
