/** Promises 10 to 20: tables, what is made of them, their kinds and asks. */
public final class TablesTest {
    private static final Due D = new Due();

    public static void main(String[] args) {
        table();
        tableRefused();
        behind();
        turn();
        scale();
        clear();
        number();
        kinds();
        as();
        asks();
        traceIsEmptied();
        D.end();
    }

    private static void dueTable(TreeSteps x, int place, int s, long... numbers) {
        D.due("stages", x.number(place, -1, -5), s);
        for (int i = 0; i <= s; i++) {
            for (int j = 0; j < s; j++) {
                D.due("number(" + place + ", " + i + ", " + j + ")", x.number(place, i, j), numbers[i * s + j]);
            }
        }
    }

    private static void table() {
        TreeSteps x = new TreeSteps(101);
        Due.fill(x, 9, 9, 9, 1, 2, -1, 1, 102, -1, 1, 3, 3, 203, 2, 1, -2);
        D.due("table from 3 on", x.table(4, 7, 3, 1), 1);
        dueTable(x, 4, 1, 51, 100);
        D.due("table from 4 on", x.table(4, 7, 4, 2), 0);
        dueTable(x, 4, 2, 99, 1, 100, 1, 51, 50);
        Due.fill(x, Long.MIN_VALUE, Long.MAX_VALUE, Long.MAX_VALUE, Long.MIN_VALUE);
        D.due("table of great items", x.table(9, 7, 0, 1), 1);
        long up = Math.floorMod(Long.MIN_VALUE, 101L);
        long down = Long.MAX_VALUE % 101;
        D.due("a times v is u", x.number(9, 0, 0) * down % 101, up);
        D.due("b times v is u", x.number(9, 1, 0) * up % 101, down);
        D.due("a place is taken again", Due.euler(x, 4), 2);
        dueTable(x, 4, 1, 0, 1);
        x.sheet(0, 0, 4);
        x.set(0, 0, 200);
        x.set(0, 1, 1);
        x.set(0, 3, 1);
        x.table(0, 0, 0, 1);
        dueTable(x, 0, 1, 101 - 56, 0);
        x.set(0, 0, 1);
        D.due("a table does not change with its sheet", x.number(0, 0, 0), 101 - 56);
        TreeSteps great = new TreeSteps(1999999973);
        Due.fill(great, -1, 1, 1, -1, 1, 2, 1, 3, 5, 7, 1999999972L, 1999999971L);
        D.due("table modulo a great prime", great.table(0, 7, 0, 2), 0);
        dueTable(great, 0, 2, 1999999972, 1999999972, 999999987, inverse(3, 1999999973),
                5 * inverse(7, 1999999973) % 1999999973, 999999987);
    }

    private static long inverse(long v, long p) {
        return java.math.BigInteger.valueOf(v).modInverse(java.math.BigInteger.valueOf(p)).longValue();
    }

    private static void tableRefused() {
        TreeSteps x = new TreeSteps(101);
        Due.euler(x, 0);
        D.due("table(10, ..)", x.table(10, 7, 0, 1), Due.BAD);
        D.due("table(-1, ..)", x.table(-1, 7, 0, 1), Due.BAD);
        D.due("table(0, 8, ..)", x.table(0, 8, 0, 1), Due.BAD);
        D.due("table(0, -1, ..)", x.table(0, -1, 0, 1), Due.BAD);
        D.due("s 0", x.table(0, 0, 0, 0), Due.BAD);
        D.due("s 5", x.table(0, 0, 0, 5), Due.BAD);
        D.due("s min", x.table(0, 0, 0, Integer.MIN_VALUE), Due.BAD);
        D.due("status()", x.status(), 0);
        D.due("a missing sheet", x.table(0, 0, -1, 1), Due.NULL);
        D.due("status()", x.status(), 1);
        x.sheet(0, 2, 80);
        D.due("i -1", x.table(0, 0, -1, 1), Due.PLACE);
        D.due("status()", x.status(), 2);
        D.due("PLACE ahead of a lower 0", x.table(0, 0, 77, 1), Due.PLACE);
        D.due("i 41", x.table(0, 0, 41, 4), Due.PLACE);
        D.due("i max", x.table(0, 0, Integer.MAX_VALUE, 4), Due.PLACE);
        D.due("a lower 0", x.table(0, 0, 40, 4), Due.BAD);
        D.due("BAD leaves status()", x.status(), 2);
        x.set(0, 1, 1);
        x.set(0, 3, 202);
        D.due("the last lower one 0 modulo p", x.table(0, 0, 0, 1), Due.BAD);
        dueTable(x, 0, 1, 0, 1);
        D.due("nothing came to be", x.count(1), 1);
        for (int i = 1; i < 80; i += 2) {
            x.set(0, i, 1);
        }
        D.due("the last 40 items", x.table(0, 0, 40, 4), 2);
        D.due("stages", x.number(0, -1, 0), 4);
    }

    private static void behind() {
        TreeSteps x = new TreeSteps(101);
        Due.whole(x, 0, 1, 2, 3);
        Due.whole(x, 1, 2, 4, 5, 6, 7, 8, 9);
        D.due("behind(2, 0, 1)", x.behind(2, 0, 1), 0);
        dueTable(x, 2, 3, 2, 0, 0, 3, 4, 5, 3, 6, 7, 3, 8, 9);
        D.due("behind(2, 1, 0)", x.behind(2, 1, 0), 0);
        dueTable(x, 2, 3, 4, 5, 0, 6, 7, 0, 8, 9, 2, 8, 9, 3);
        D.due("behind onto itself", x.behind(0, 0, 0), 1);
        dueTable(x, 0, 2, 2, 0, 3, 2, 3, 3);
        D.due("behind(10, 0, 0)", x.behind(10, 0, 0), Due.BAD);
        D.due("behind(0, 10, 0)", x.behind(0, 10, 0), Due.BAD);
        D.due("behind(0, 0, -1)", x.behind(0, 0, -1), Due.BAD);
        D.due("behind(0, 0, 5)", x.behind(0, 0, 5), Due.NULL);
        D.due("status()", x.status(), 1);
        D.due("behind(0, 5, 0)", x.behind(0, 5, 0), Due.NULL);
        D.due("an empty place takes", x.behind(5, 1, 1), 0);
        D.due("status()", x.status(), 0);
        D.due("8 stages", x.behind(6, 5, 5), 0);
        D.due("stages", x.number(6, -1, 0), 8);
        x.kind(9);
        D.due("9 stages", x.behind(7, 6, 0), Due.FULL);
        D.due("FULL leaves status()", x.status(), 1);
        D.due("FULL changes nothing", x.kind(7), Due.NULL);
        D.due("NULL ahead of FULL", x.behind(7, 6, 9), Due.NULL);
        D.due("BAD ahead of FULL", x.behind(10, 6, 6), Due.BAD);
    }

    private static void turn() {
        TreeSteps x = new TreeSteps(101);
        Due.whole(x, 0, 2, 4, 5, 6, 7, 8, 9);
        D.due("turn(1, 0, 0)", x.turn(1, 0, 0), 0);
        dueTable(x, 1, 2, 97, 97, 99, 99, 93, 92);
        D.due("turn(1, 0, 1)", x.turn(1, 0, 1), 0);
        dueTable(x, 1, 2, 2, 2, 4, 4, 9, 8);
        D.due("undone with steps of -1 turned about", x.turn(2, 0, 0), 0);
        D.due("turn onto itself", x.turn(0, 0, 1), 0);
        dueTable(x, 0, 2, 2, 2, 4, 4, 9, 8);
        x.scale(2, 2, 100);
        D.due("TURNED weighs as UNDONE with steps of -1", x.alike(1, 2, 6), 1);
        D.due("how 2", x.turn(1, 0, 2), Due.BAD);
        D.due("how -1", x.turn(1, 9, -1), Due.BAD);
        D.due("turn(10, 0, 0)", x.turn(10, 0, 0), Due.BAD);
        D.due("turn(0, -1, 0)", x.turn(0, -1, 0), Due.BAD);
        D.due("status()", x.status(), 0);
        D.due("turn of nothing", x.turn(1, 9, 0), Due.NULL);
        D.due("status()", x.status(), 1);
        D.due("it is there still", x.number(1, -1, 0), 2);
    }

    private static void scale() {
        TreeSteps x = new TreeSteps(101);
        Due.whole(x, 0, 2, 4, 5, 6, 7, 8, 9);
        D.due("scale(1, 0, 20)", x.scale(1, 0, 20), 0);
        dueTable(x, 1, 2, 80, 100, 19, 39, 59, 79);
        D.due("scale(1, 1, 100)", x.scale(1, 1, 100), 0);
        dueTable(x, 1, 2, 21, 1, 82, 62, 42, 22);
        D.due("scale(1, 1, 0)", x.scale(1, 1, 0), 2);
        dueTable(x, 1, 2, 0, 0, 0, 0, 0, 0);
        D.due("scale(1, 0, 101)", x.scale(1, 0, 101), Due.BAD);
        D.due("scale(1, 0, -1)", x.scale(1, 9, -1), Due.BAD);
        D.due("scale(-1, 0, 0)", x.scale(-1, 0, 0), Due.BAD);
        D.due("scale(0, 10, 0)", x.scale(0, 10, 0), Due.BAD);
        D.due("scale of nothing", x.scale(1, 9, 0), Due.NULL);
        D.due("status()", x.status(), 1);
    }

    private static void clear() {
        TreeSteps x = new TreeSteps(101);
        Due.euler(x, 0);
        x.kind(1);
        D.due("clear(0)", x.clear(0), 1);
        D.due("clear leaves status()", x.status(), 1);
        D.due("clear(0)", x.clear(0), 0);
        D.due("count(1)", x.count(1), 0);
        D.due("clear(10)", x.clear(10), Due.BAD);
        D.due("clear(-1)", x.clear(-1), Due.BAD);
        Due.euler(x, 0);
        x.clear(1);
        D.due("clear of nothing leaves status()", x.status(), 0);
    }

    private static void number() {
        TreeSteps x = new TreeSteps(101);
        D.due("number(10, ..)", x.number(10, 0, 0), Due.BAD);
        D.due("number(-1, ..)", x.number(-1, -1, 0), Due.BAD);
        D.due("NULL ahead of BAD", x.number(0, -2, -2), Due.NULL);
        Due.whole(x, 0, 2, 4, 5, 6, 7, 8, 9);
        D.due("number(0, -1, min)", x.number(0, -1, Integer.MIN_VALUE), 2);
        D.due("number(0, 2, 1)", x.number(0, 2, 1), 9);
        x.kind(1);
        D.due("number(0, 3, 0)", x.number(0, 3, 0), Due.BAD);
        D.due("number(0, -2, 0)", x.number(0, -2, 0), Due.BAD);
        D.due("number(0, 0, 2)", x.number(0, 0, 2), Due.BAD);
        D.due("number(0, 2, 2)", x.number(0, 2, 2), Due.BAD);
        D.due("number(0, 1, -1)", x.number(0, 1, -1), Due.BAD);
        D.due("number(0, max, max)", x.number(0, Integer.MAX_VALUE, Integer.MAX_VALUE), Due.BAD);
        D.due("BAD leaves status()", x.status(), 1);
        D.due("number(0, 1, 0)", x.number(0, 1, 0), 6);
        D.due("status()", x.status(), 0);
    }

    private static void dueKind(TreeSteps x, int place, int told) {
        boolean lower = told == 1 || told == 2;
        D.due("kind(" + place + ")", x.kind(place), told);
        D.due("is(" + place + ", 0)", x.is(place, 0), 1);
        D.due("is(" + place + ", 1)", x.is(place, 1), lower ? 1 : 0);
        D.due("is(" + place + ", 2)", x.is(place, 2), told == 2 ? 1 : 0);
        D.due("is(" + place + ", 3)", x.is(place, 3), told == 3 ? 1 : 0);
    }

    private static void kinds() {
        TreeSteps x = new TreeSteps(101);
        D.due("PLAIN", Due.euler(x, 0), 2);
        D.due("LOWER", Due.backEuler(x, 1), 1);
        D.due("KEEPING ahead of LOWER", Due.midpoint(x, 2), 3);
        D.due("TABLE", Due.radau(x, 3), 0);
        D.due("PLAIN ahead of KEEPING", Due.whole(x, 4, 2, 0, 0, 5, 0, 0, 0), 2);
        D.due("LOWER with 0 on one diagonal place", Due.whole(x, 5, 2, 0, 0, 1, 1, 1, 1), 1);
        D.due("KEEPING, not LOWER", Due.whole(x, 6, 2, 0, 5, 0, 0, 0, 0), 3);
        D.due("TABLE for one number", Due.whole(x, 7, 3, 0, 0, 0, 0, 0, 1, 0, 0, 0, 0, 1, 1), 0);
        D.due("not KEEPING for one pair", Due.whole(x, 8, 2, 1, 1, 0, 1, 2, 2), 0);
        dueKind(x, 0, 2);
        dueKind(x, 1, 1);
        dueKind(x, 2, 3);
        dueKind(x, 3, 0);
        dueKind(x, 4, 2);
        dueKind(x, 5, 1);
        dueKind(x, 6, 3);
        dueKind(x, 7, 0);
        D.due("count(1)", x.count(1), 9);
        D.due("count(2)", x.count(2), 4);
        D.due("count(3)", x.count(3), 2);
        D.due("count(4)", x.count(4), 2);
        D.due("kind(9)", x.kind(9), Due.NULL);
        D.due("is of nothing", x.is(9, 0), 0);
        D.due("is leaves status()", x.status(), 1);
        D.due("is(0, 4)", x.is(0, 4), Due.BAD);
        D.due("is(0, -1)", x.is(0, -1), Due.BAD);
        D.due("is(10, 0)", x.is(10, 0), Due.BAD);
        D.due("is(-1, 0)", x.is(-1, 0), Due.BAD);
        D.due("kind(10)", x.kind(10), Due.BAD);
        D.due("kind(-1)", x.kind(-1), Due.BAD);
    }

    private static void as() {
        TreeSteps x = new TreeSteps(101);
        Due.runge(x, 0);
        Due.midpoint(x, 1);
        int[] plain = {4, 4, 4, Due.KIND};
        int[] keeping = {1, Due.KIND, Due.KIND, 1};
        for (int kind = 0; kind < 4; kind++) {
            D.due("as(0, " + kind + ")", x.as(0, kind), plain[kind]);
            D.due("status()", x.status(), plain[kind] < 0 ? 3 : 0);
            D.due("as(1, " + kind + ")", x.as(1, kind), keeping[kind]);
            D.due("status()", x.status(), keeping[kind] < 0 ? 3 : 0);
        }
        D.due("as(2, 3)", x.as(2, 3), Due.NULL);
        D.due("as(0, 4)", x.as(0, 4), Due.BAD);
        D.due("as(0, -1)", x.as(0, -1), Due.BAD);
        D.due("as(10, 0)", x.as(10, 0), Due.BAD);
        D.due("as(-1, 0)", x.as(-1, 0), Due.BAD);
        D.due("status()", x.status(), 1);
    }

    private static void dueAsk(TreeSteps x, int place, int what, int answer, int... bodies) {
        D.due("ask(" + place + ", " + what + ")", x.ask(place, what), answer);
        for (int i = 0; i < bodies.length; i++) {
            D.due("trace(" + i + ")", x.trace(i), bodies[i]);
        }
        for (int i : new int[] {bodies.length, 15, 16, 17, -1, Integer.MAX_VALUE, Integer.MIN_VALUE}) {
            D.due("trace(" + i + ")", x.trace(i), Due.NONE);
        }
    }

    private static void asks() {
        TreeSteps x = new TreeSteps(103);
        Due.radau(x, 0);
        Due.backEuler(x, 1);
        Due.runge(x, 2);
        Due.gauss(x, 3);
        dueAsk(x, 0, 0, 2, 10);
        dueAsk(x, 0, 1, 3, 20);
        dueAsk(x, 1, 0, 101, 11, 10);
        dueAsk(x, 1, 1, 102, 21, 20, 11, 10);
        dueAsk(x, 2, 0, 208, 12, 11, 10);
        dueAsk(x, 2, 1, 212, 21, 20, 12, 11, 10);
        dueAsk(x, 3, 0, 19, 13, 10, 22, 20);
        dueAsk(x, 3, 1, 16, 22, 20);
    }

    private static void traceIsEmptied() {
        TreeSteps x = new TreeSteps(103);
        Due.radau(x, 0);
        dueAsk(x, 0, 1, 3, 20);
        D.due("status()", x.status(), 0);
        D.due("ask(0, 2)", x.ask(0, 2), Due.BAD);
        D.due("ask(0, -1)", x.ask(0, -1), Due.BAD);
        D.due("ask(10, 0)", x.ask(10, 0), Due.BAD);
        D.due("ask(-1, 0)", x.ask(-1, 0), Due.BAD);
        D.due("BAD leaves THE TRACE", x.trace(0), 20);
        x.order(0, 0);
        D.due("order() leaves THE TRACE", x.trace(0), 20);
        D.due("ask of nothing", x.ask(1, 0), Due.NULL);
        D.due("status()", x.status(), 1);
        D.due("NULL empties THE TRACE", x.trace(0), Due.NONE);
    }
}
