import java.lang.reflect.Array;
import java.util.ArrayList;
import java.util.Collections;
import java.util.IdentityHashMap;
import java.util.List;
import java.util.Set;

/** The document once more, on Java's own nested arrays: rows are objects, links are references, reals may be NaN. */
final class Model {
    private static final int UNKNOWN = -1000001, OUTSIDE = -1000002, STATE = -1000003, ROOM = -1000004, NONE = -1000009;
    private static final int NULL = 1, INDEX = 2, STORE = 3, SIZE = 4, RING = 5, SPENT = 6;

    private static final class Tab {
        final int kind;
        final Object[] rows;

        Tab(int kind, int n) {
            this.kind = kind;
            this.rows = new Object[n];
        }
    }

    /** What ends a call before its answer. */
    private static final class Ended extends RuntimeException {
        private static final long serialVersionUID = 1L;
        final int answer;

        Ended(int answer) {
            super(null, null, false, false);
            this.answer = answer;
        }
    }

    private List<Tab> tabs = new ArrayList<>();
    private List<Integer> packed = new ArrayList<>();
    private int entered;
    private int failed;

    /** The answer of the call with this name. */
    Number call(String name, int... a) {
        try {
            return answer(name, a);
        } catch (Ended e) {
            if (e.answer < -1000010) {
                failed++;
            }
            return e.answer;
        }
    }

    private Number answer(String name, int[] a) {
        switch (name) {
            case "table": return table(a[0], a[1]);
            case "row": return row(a[0], a[1], a[2]);
            case "share": return share(a[0], a[1], a[2], a[3]);
            case "fall": return fall(a[0], a[1]);
            case "put": return put(a[0], a[1], a[2], a[3]);
            case "get": return get(a[0], a[1], a[2]);
            case "real": return real(a[0], a[1], a[2]);
            case "told": return told(a[0], a[1], a[2]);
            case "odd": return odd(known(a[0]));
            case "copy": return copy(a[0], a[1], a[2], a[3], a[4], a[5], a[6]);
            case "turned": return turned(known(a[0]));
            case "product": return product(a[0], a[1]);
            case "distances": return distances(known(a[0]));
            case "pack": return pack(known(a[0]));
            case "word": return a[0] < 0 || a[0] >= packed.size() ? NONE : packed.get(a[0]);
            case "alike": return alike(known(a[0]), known(a[1]));
            case "same": return same(a[0], a[1], a[2], a[3]);
            case "total": return total(known(a[0]));
            case "entered": return entered;
            case "deep": return deep(known(a[0]));
            case "count": return count(a[0]);
            case "clear": return clear();
            default: throw new IllegalArgumentException(name);
        }
    }

    private static Ended fails(int cause) {
        return new Ended(-1000010 - cause);
    }

    private static void refuseIf(boolean so, int code) {
        if (so) {
            throw new Ended(code);
        }
    }

    private static void failIf(boolean so, int cause) {
        if (so) {
            throw fails(cause);
        }
    }

    private Tab known(int t) {
        refuseIf(t < 0 || t >= tabs.size(), UNKNOWN);
        return tabs.get(t);
    }

    private static void place(Tab t, int i) {
        failIf(i < 0 || i >= t.rows.length, INDEX);
    }

    private static Object standing(Tab t, int i) {
        place(t, i);
        failIf(t.rows[i] == null, NULL);
        return t.rows[i];
    }

    private static int length(Object row) {
        return Array.getLength(row);
    }

    private static Object fresh(int kind, int cells) {
        switch (kind) {
            case 0: return new boolean[cells];
            case 1: return new int[cells];
            case 2: return new double[cells];
            default: return new Tab[cells];
        }
    }

    private int add(Tab t) {
        tabs.add(t);
        return tabs.size() - 1;
    }

    private int table(int kind, int n) {
        refuseIf(kind < 0 || kind > 3 || n > 12, OUTSIDE);
        refuseIf(tabs.size() == 16, ROOM);
        failIf(n < 0, SIZE);
        return add(new Tab(kind, n));
    }

    private int row(int table, int i, int cells) {
        Tab t = known(table);
        refuseIf(cells > 16, OUTSIDE);
        failIf(cells < 0, SIZE);
        place(t, i);
        t.rows[i] = fresh(t.kind, cells);
        return 1;
    }

    private int share(int table, int i, int other, int j) {
        Tab t = known(table);
        Tab o = known(other);
        place(o, j);
        place(t, i);
        Object row = standing(o, j);
        failIf(t.kind != o.kind, STORE);
        t.rows[i] = row;
        return 1;
    }

    private int fall(int table, int i) {
        Tab t = known(table);
        place(t, i);
        int was = t.rows[i] == null ? 0 : 1;
        t.rows[i] = null;
        return was;
    }

    private int put(int table, int i, int j, int v) {
        Tab t = known(table);
        Tab link = t.kind == 3 && v != NONE ? known(v) : null;
        Object row = standing(t, i);
        failIf(j < 0 || j >= length(row), INDEX);
        switch (t.kind) {
            case 0: ((boolean[]) row)[j] = v != 0; break;
            case 1: ((int[]) row)[j] = v; break;
            case 2: ((double[]) row)[j] = v / 1000.0; break;
            default: ((Tab[]) row)[j] = link;
        }
        return 1;
    }

    private int get(int table, int i, int j) {
        Tab t = known(table);
        Object row = standing(t, i);
        failIf(j < 0 || j >= length(row), INDEX);
        Object cell = Array.get(row, j);
        switch (t.kind) {
            case 0: return (Boolean) cell ? 1 : 0;
            case 1: return (Integer) cell;
            case 2: return ((Double) cell).intValue();
            default: return cell == null ? NONE : tabs.indexOf(cell);
        }
    }

    private double real(int table, int i, int j) {
        try {
            get(table, i, j);
        } catch (Ended e) {
            return 0.0;
        }
        Object row = tabs.get(table).rows[i];
        double r = row instanceof double[] ? ((double[]) row)[j] : 0.0;
        return Double.isNaN(r) ? 0.0 : r;
    }

    private int told(int table, int i, int what) {
        Tab t = known(table);
        refuseIf(what < 0 || what > 2, OUTSIDE);
        return what == 0 ? t.kind : what == 1 ? t.rows.length : length(standing(t, i));
    }

    private static int odd(Tab t) {
        for (int i = 0; i < t.rows.length; i++) {
            if (t.rows[i] == null || length(t.rows[i]) != t.rows.length) {
                return i;
            }
        }
        return NONE;
    }

    private int copy(int table, int i, int a, int other, int j, int b, int n) {
        Tab t = known(table);
        Tab o = known(other);
        place(t, i);
        place(o, j);
        Object from = standing(t, i);
        Object to = standing(o, j);
        try {
            System.arraycopy(from, a, to, b, n);
        } catch (ArrayStoreException e) {
            throw fails(STORE);
        } catch (IndexOutOfBoundsException e) {
            throw fails(INDEX);
        }
        return 1;
    }

    /** The one length of all rows; -1 if there is none. */
    private static int wide(Tab t) {
        int wide = t.rows.length == 0 ? 0 : t.rows[0] == null ? -1 : length(t.rows[0]);
        for (Object row : t.rows) {
            if (row == null || length(row) != wide) {
                return -1;
            }
        }
        return wide;
    }

    private int turned(Tab t) {
        int wide = wide(t);
        refuseIf(wide < 0 || wide > 12, STATE);
        refuseIf(tabs.size() == 16, ROOM);
        Tab made = new Tab(t.kind, wide);
        for (int x = 0; x < wide; x++) {
            made.rows[x] = fresh(t.kind, t.rows.length);
            for (int y = 0; y < t.rows.length; y++) {
                Array.set(made.rows[x], y, Array.get(t.rows[y], x));
            }
        }
        return add(made);
    }

    private int product(int table, int other) {
        Tab t = known(table);
        Tab o = known(other);
        refuseIf(t.kind == 3 || t.kind != o.kind || wide(t) < 0 || wide(o) < 0 || wide(t) != o.rows.length, STATE);
        refuseIf(tabs.size() == 16, ROOM);
        Tab made = new Tab(t.kind, t.rows.length);
        for (int x = 0; x < t.rows.length; x++) {
            made.rows[x] = fresh(t.kind, wide(o));
            for (int y = 0; y < wide(o); y++) {
                Array.set(made.rows[x], y, cell(t, o, x, y));
            }
        }
        return add(made);
    }

    private static Object cell(Tab t, Tab o, int x, int y) {
        boolean bit = false;
        int number = 0;
        double real = 0.0;
        for (int k = 0; k < o.rows.length; k++) {
            if (t.kind == 0) {
                bit = bit || ((boolean[]) t.rows[x])[k] && ((boolean[]) o.rows[k])[y];
            } else if (t.kind == 1) {
                number += ((int[]) t.rows[x])[k] * ((int[]) o.rows[k])[y];
            } else {
                real += ((double[]) t.rows[x])[k] * ((double[]) o.rows[k])[y];
            }
        }
        return t.kind == 0 ? (Object) bit : t.kind == 1 ? (Object) number : (Object) real;
    }

    /** By way of Floyd and Warshall. */
    private int distances(Tab t) {
        int n = t.rows.length;
        refuseIf(t.kind != 0 || odd(t) != NONE, STATE);
        refuseIf(tabs.size() == 16, ROOM);
        int far = 1000;
        int[][] d = new int[n][n];
        for (int x = 0; x < n; x++) {
            for (int y = 0; y < n; y++) {
                d[x][y] = x == y ? 0 : ((boolean[]) t.rows[x])[y] ? 1 : far;
            }
        }
        for (int k = 0; k < n; k++) {
            for (int x = 0; x < n; x++) {
                for (int y = 0; y < n; y++) {
                    d[x][y] = Math.min(d[x][y], d[x][k] + d[k][y]);
                }
            }
        }
        Tab made = new Tab(1, n);
        for (int x = 0; x < n; x++) {
            for (int y = 0; y < n; y++) {
                d[x][y] = d[x][y] >= far ? -1 : d[x][y];
            }
            made.rows[x] = d[x];
        }
        return add(made);
    }

    private int pack(Tab t) {
        refuseIf(t.kind != 0, STATE);
        StringBuilder bits = new StringBuilder();
        for (int i = 0; i < t.rows.length; i++) {
            for (boolean bit : (boolean[]) standing(t, i)) {
                bits.append(bit ? '1' : '0');
            }
        }
        while (bits.length() % 32 != 0) {
            bits.append('0');
        }
        packed = new ArrayList<>();
        for (int from = 0; from < bits.length(); from += 32) {
            String word = new StringBuilder(bits.substring(from, from + 32)).reverse().toString();
            packed.add(Integer.parseUnsignedInt(word, 2));
        }
        return packed.size();
    }

    private static int alike(Tab t, Tab o) {
        if (t.kind != o.kind || t.rows.length != o.rows.length) {
            return 0;
        }
        for (int i = 0; i < t.rows.length; i++) {
            Object a = t.rows[i];
            Object b = o.rows[i];
            if ((a == null) != (b == null) || a != null && length(a) != length(b)) {
                return 0;
            }
            for (int j = 0; a != null && j < length(a); j++) {
                Object c = Array.get(a, j);
                Object d = Array.get(b, j);
                boolean like = t.kind == 3 ? c == d
                        : t.kind == 2 ? ((Double) c).doubleValue() == ((Double) d).doubleValue() : c.equals(d);
                if (!like) {
                    return 0;
                }
            }
        }
        return 1;
    }

    private int same(int table, int i, int other, int j) {
        Tab t = known(table);
        Tab o = known(other);
        place(t, i);
        place(o, j);
        return t.rows[i] != null && t.rows[i] == o.rows[j] ? 1 : 0;
    }

    private int total(Tab t) {
        entered = 0;
        return total(t, List.of());
    }

    private int total(Tab t, List<Tab> above) {
        failIf(above.contains(t), RING);
        failIf(entered == 1000, SPENT);
        entered++;
        List<Tab> open = new ArrayList<>(above);
        open.add(t);
        int sum = 0;
        for (int i = 0; i < t.rows.length; i++) {
            Object row = standing(t, i);
            for (int j = 0; j < length(row); j++) {
                Object cell = Array.get(row, j);
                if (cell instanceof Boolean) {
                    sum += (Boolean) cell ? 1 : 0;
                } else if (cell instanceof Tab) {
                    sum += total((Tab) cell, open);
                } else if (cell != null) {
                    sum += ((Number) cell).intValue();
                }
            }
        }
        return sum;
    }

    /** How far one comes in so many steps: in a ring ever farther. */
    private int deep(Tab start) {
        int[] before = new int[tabs.size()];
        int[] now = before;
        for (int step = 0; step < 40; step++) {
            before = now;
            now = new int[tabs.size()];
            for (int t = 0; t < now.length; t++) {
                now[t] = deepBy(tabs.get(t), before);
            }
        }
        int at = tabs.indexOf(start);
        failIf(now[at] != before[at], RING);
        return now[at];
    }

    private int deepBy(Tab t, int[] before) {
        int deepest = 0;
        for (Object row : t.rows) {
            if (row instanceof Tab[]) {
                for (Tab link : (Tab[]) row) {
                    deepest = link == null ? deepest : Math.max(deepest, before[tabs.indexOf(link)]);
                }
            }
        }
        return t.kind == 3 ? 1 + deepest : 0;
    }

    private int count(int what) {
        refuseIf(what < 0 || what > 3, OUTSIDE);
        Set<Object> rows = Collections.newSetFromMap(new IdentityHashMap<>());
        int fallen = 0;
        for (Tab t : tabs) {
            for (Object row : t.rows) {
                fallen += row == null ? 1 : 0;
                rows.add(row);
            }
        }
        rows.remove(null);
        return what == 0 ? tabs.size() : what == 1 ? rows.size() : what == 2 ? fallen : failed;
    }

    private int clear() {
        int were = tabs.size();
        tabs = new ArrayList<>();
        packed = new ArrayList<>();
        entered = 0;
        failed = 0;
        return were;
    }
}
