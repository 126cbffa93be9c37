import java.util.ArrayList;
import java.util.List;

/** One object with its calls by name; they are counted, as nothing is promised behind the 512th. */
final class Run {
    static final int MOST_CALLS = 512;

    private final Due due;
    private final TreeSteps x;
    private int calls = 0;

    Run(Due due, int p) {
        this.due = due;
        x = new TreeSteps(p);
    }

    long call(String name, long... v) {
        calls++;
        if (calls == MOST_CALLS + 1) {
            due.due("calls of one object", calls, MOST_CALLS);
        }
        int[] n = new int[5];
        for (int i = 0; i < v.length; i++) {
            n[i] = (int) v[i];
        }
        switch (name) {
            case "sheet": return x.sheet(n[0], n[1], n[2]);
            case "set": return x.set(n[0], n[1], v[2]);
            case "copy": return x.copy(n[0], n[1], n[2], n[3], n[4]);
            case "drop": return x.drop(n[0]);
            case "trees": return x.trees(n[0]);
            case "tree": return x.tree(n[0], n[1]);
            case "level": return x.level(n[0], n[1]);
            case "hang": return x.hang(n[0], n[1]);
            default: return callOfTables(name, n);
        }
    }

    private long callOfTables(String name, int[] n) {
        switch (name) {
            case "table": return x.table(n[0], n[1], n[2], n[3]);
            case "behind": return x.behind(n[0], n[1], n[2]);
            case "turn": return x.turn(n[0], n[1], n[2]);
            case "scale": return x.scale(n[0], n[1], n[2]);
            case "clear": return x.clear(n[0]);
            case "number": return x.number(n[0], n[1], n[2]);
            case "kind": return x.kind(n[0]);
            case "is": return x.is(n[0], n[1]);
            case "as": return x.as(n[0], n[1]);
            case "ask": return x.ask(n[0], n[1]);
            case "trace": return x.trace(n[0]);
            case "weight": return x.weight(n[0], n[1]);
            case "order": return x.order(n[0], n[1]);
            case "share": return x.share(n[0], n[1], n[2]);
            case "ride": return x.ride(n[0], n[1], n[2], n[3]);
            case "alike": return x.alike(n[0], n[1], n[2]);
            case "count": return x.count(n[0]);
            case "status": return x.status();
            default: throw new IllegalArgumentException(name);
        }
    }

    /** How many calls are left. */
    int left() {
        return MOST_CALLS - calls;
    }

    void due(long want, String name, long... v) {
        due.due(text(name, v), call(name, v), want);
    }

    static String text(String name, long... v) {
        StringBuilder text = new StringBuilder(name).append('(');
        for (int i = 0; i < v.length; i++) {
            text.append(i == 0 ? "" : ", ").append(v[i]);
        }
        return text.append(')').toString();
    }

    /** Sheet 7 becomes a row of longs. */
    void fill(long... items) {
        call("sheet", 7, 2, items.length);
        for (int i = 0; i < items.length; i++) {
            if (items[i] != 0) {
                call("set", 7, i, items[i]);
            }
        }
    }

    /** A table of as many stages as the fractions are for, by way of sheet 7: the answer of table(). */
    long table(int place, long... items) {
        int s = 1;
        while (2 * s * (s + 1) < items.length) {
            s++;
        }
        fill(items);
        return call("table", place, 7, 0, s);
    }

    /** A table of whole numbers, each by 1. */
    long whole(int place, long... numbers) {
        return table(place, Due.byOne(numbers));
    }

    /** What stands at a place: its stages, all its numbers and its kind, or the refusal. */
    List<Long> seen(int place) {
        List<Long> seen = new ArrayList<>();
        long s = call("number", place, -1, 0);
        seen.add(s);
        for (long i = 0; i <= s; i++) {
            for (long j = 0; j < s; j++) {
                seen.add(call("number", place, i, j));
            }
        }
        seen.add(call("kind", place));
        return seen;
    }

    /** That a place has a table of these numbers and this kind. */
    void dueTable(int place, long s, long kind, long... numbers) {
        List<Long> want = new ArrayList<>();
        want.add(s);
        for (long v : numbers) {
            want.add(v);
        }
        want.add(kind);
        due.same("what stands at " + place, seen(place), want);
    }

    /** That the calls behind one another answer this: status() is looked at behind a call. */
    void dueStatus(long want, long status, String name, long... v) {
        due(want, name, v);
        due.due("status() behind " + text(name, v), call("status"), status);
    }
}
