/** Each promise of the document by its number: ordinary inputs, the edges it names, wrong inputs. */
public final class PromisesTest {
    private static final int UNKNOWN = -1000001, OUTSIDE = -1000002, STATE = -1000003, ROOM = -1000004, NONE = -1000009;
    private static final int NULL = -1000011, INDEX = -1000012, STORE = -1000013, SIZE = -1000014;
    private static final int RING = -1000015, SPENT = -1000016;
    private static final int BITS = 0, NUMBERS = 1, REALS = 2, LINKS = 3;
    private static final int MAX = Integer.MAX_VALUE, MIN = Integer.MIN_VALUE;
    private static final int[] WRONG = {-1, 16, 99, NONE, UNKNOWN, MAX, MIN};

    public static void main(String[] args) {
        promise1();
        promise2();
        promise3();
        promise4();
        promise4Order();
        promise5();
        promise6();
        promise6Reals();
        promise6Links();
        promise7();
        promise8();
        promise9();
        promise10();
        promise11();
        promise11Pieces();
        promise11Order();
        promise12();
        promise12Edges();
        promise13();
        promise13Reals();
        promise13NoNumber();
        promise13Edges();
        promise14();
        promise14Edges();
        promise15And16();
        promise15Edges();
        promise17();
        promise17NoNumber();
        promise18();
        promise19();
        promise19Faults();
        promise19Spent();
        promise20();
        promise21();
        promise21Ways();
        promise22();
        promise23();
        Due.end();
    }

    /** An object with one table of these rows; a row that is null is fallen. */
    private static NestTables with(int kind, int[][] rows) {
        NestTables x = new NestTables();
        add(x, kind, rows);
        return x;
    }

    private static int add(NestTables x, int kind, int[][] rows) {
        int t = x.table(kind, rows.length);
        for (int i = 0; i < rows.length; i++) {
            if (rows[i] != null) {
                x.row(t, i, rows[i].length);
                for (int j = 0; j < rows[i].length; j++) {
                    x.put(t, i, j, rows[i][j]);
                }
            }
        }
        return t;
    }

    private static void fill(NestTables x) {
        while (x.count(0) < 16) {
            x.table(NUMBERS, 0);
        }
    }

    /** That the table is of this kind and has these cells, as get() answers them. */
    private static void holds(String what, NestTables x, int table, int kind, int[][] rows) {
        Due.is(what + ": kind", x.told(table, 0, 0), kind);
        Due.is(what + ": places", x.told(table, 0, 1), rows.length);
        for (int i = 0; i < rows.length; i++) {
            Due.is(what + ": length at " + i, x.told(table, i, 2), rows[i] == null ? NULL : rows[i].length);
            for (int j = 0; rows[i] != null && j < rows[i].length; j++) {
                Due.is(what + ": " + i + ", " + j, x.get(table, i, j), rows[i][j]);
            }
        }
    }

    private static void promise1() {
        NestTables x = new NestTables();
        Due.is("1: count(0)", x.count(0), 0);
        Due.is("1: count(1)", x.count(1), 0);
        Due.is("1: count(2)", x.count(2), 0);
        Due.is("1: count(3)", x.count(3), 0);
        Due.is("1: entered()", x.entered(), 0);
        Due.is("1: word(0)", x.word(0), NONE);
        Due.is("1: odd(0)", x.odd(0), UNKNOWN);
        Due.is("1: clear()", x.clear(), 0);
    }

    private static void promise2() {
        NestTables x = new NestTables();
        for (int t = 0; t < 16; t++) {
            int n = t % 13;
            Due.is("2: table", x.table(t % 4, n), t);
            Due.is("2: kind", x.told(t, 0, 0), t % 4);
            Due.is("2: places", x.told(t, 0, 1), n);
            for (int i = 0; i < n; i++) {
                Due.is("2: fallen", x.told(t, i, 2), NULL);
            }
        }
        Due.is("2: the 17th", x.table(0, 0), ROOM);
        Due.is("2: ROOM ahead of SIZE", x.table(0, -1), ROOM);
        Due.is("2: OUTSIDE ahead of ROOM", x.table(0, 13), OUTSIDE);
        Due.is("2: count", x.count(0), 16);
        NestTables y = new NestTables();
        Due.is("2: kind 4", y.table(4, 1), OUTSIDE);
        Due.is("2: kind -1", y.table(-1, 1), OUTSIDE);
        Due.is("2: kind ahead of SIZE", y.table(4, -1), OUTSIDE);
        Due.is("2: 13 places", y.table(1, 13), OUTSIDE);
        Due.is("2: MAX places", y.table(1, MAX), OUTSIDE);
        Due.is("2: no FAIL yet", y.count(3), 0);
        Due.is("2: -1 places", y.table(1, -1), SIZE);
        Due.is("2: MIN places", y.table(1, MIN), SIZE);
        Due.is("2: FAILS", y.count(3), 2);
        Due.is("2: nothing changed", y.count(0), 0);
        Due.is("2: 12 places", y.table(3, 12), 0);
        Due.is("2: all fallen", y.count(2), 12);
    }

    private static void promise3() {
        NestTables x = new NestTables();
        for (int kind = 0; kind < 4; kind++) {
            x.table(kind, 3);
            Due.is("3: row of 16", x.row(kind, 0, 16), 1);
            Due.is("3: row of 0", x.row(kind, 2, 0), 1);
            Due.is("3: length 16", x.told(kind, 0, 2), 16);
            Due.is("3: length 0", x.told(kind, 2, 2), 0);
            Due.is("3: still fallen", x.told(kind, 1, 2), NULL);
            for (int j = 0; j < 16; j++) {
                Due.is("3: at first", x.get(kind, 0, j), kind == LINKS ? NONE : 0);
            }
        }
        x.put(1, 0, 3, 77);
        x.share(1, 1, 1, 0);
        Due.is("3: row anew", x.row(1, 0, 5), 1);
        Due.is("3: new cells", x.get(1, 0, 3), 0);
        Due.is("3: the old row stands elsewhere", x.get(1, 1, 3), 77);
        Due.is("3: no longer the same", x.same(1, 0, 1, 1), 0);
        Due.is("3: 17 cells", x.row(1, 0, 17), OUTSIDE);
        Due.is("3: 17 cells, no place", x.row(1, 3, 17), OUTSIDE);
        Due.is("3: MAX cells", x.row(1, 0, MAX), OUTSIDE);
        for (int t : WRONG) {
            Due.is("3: UNKNOWN", x.row(t, 0, 1), UNKNOWN);
            Due.is("3: UNKNOWN first", x.row(t, 99, 17), UNKNOWN);
        }
        Due.is("3: no table yet", x.row(4, 0, 1), UNKNOWN);
        Due.is("3: no FAIL so far", x.count(3), 4);
        Due.is("3: SIZE", x.row(1, 0, -1), SIZE);
        Due.is("3: SIZE ahead of INDEX", x.row(1, 3, MIN), SIZE);
        Due.is("3: place 3", x.row(1, 3, 1), INDEX);
        Due.is("3: place -1", x.row(1, -1, 1), INDEX);
        Due.is("3: place MAX", x.row(1, MAX, 1), INDEX);
        Due.is("3: FAILS", x.count(3), 9);
        Due.is("3: unchanged", x.told(1, 0, 2), 5);
        everyPlace();
    }

    /** A row at every place there can be, each made anew: old cells are not seen again. */
    private static void everyPlace() {
        NestTables x = new NestTables();
        for (int t = 0; t < 16; t++) {
            x.table(t % 4, 12);
            for (int i = 0; i < 12; i++) {
                x.row(t, i, 16);
            }
        }
        Due.is("3: rows at all places", x.count(1), 192);
        x.put(13, 11, 15, 5);
        x.put(15, 11, 15, 5);
        x.put(2, 0, 0, 5000);
        Due.is("3: once more", x.row(13, 11, 16), 1);
        Due.is("3: once more", x.row(15, 11, 16), 1);
        Due.is("3: once more", x.row(2, 0, 16), 1);
        Due.is("3: as many", x.count(1), 192);
        Due.is("3: a number at first", x.get(13, 11, 15), 0);
        Due.is("3: a link at first", x.get(15, 11, 15), NONE);
        Due.real("3: a real at first", x.real(2, 0, 0), 0.0);
    }

    private static void promise4() {
        NestTables x = with(NUMBERS, new int[][] {{1, 2, 3}, null, {4}});
        add(x, NUMBERS, new int[][] {null, {9}});
        Due.is("4: share in one table", x.share(0, 1, 0, 0), 1);
        Due.is("4: share to another", x.share(1, 0, 0, 1), 1);
        Due.is("4: the same", x.same(0, 0, 1, 0), 1);
        x.put(1, 0, 2, 33);
        Due.is("4: changed in all", x.get(0, 0, 2), 33);
        Due.is("4: changed in all", x.get(0, 1, 2), 33);
        Due.is("4: rows", x.count(1), 3);
        Due.is("4: on a place with a row", x.share(0, 2, 0, 0), 1);
        Due.is("4: rows", x.count(1), 2);
        Due.is("4: onto itself", x.share(0, 2, 0, 2), 1);
        Due.is("4: onto itself, standing alone", x.share(1, 1, 1, 1), 1);
        Due.is("4: that is still there", x.get(1, 1, 0), 9);
        Due.is("4: rows", x.count(1), 2);
        x.fall(0, 0);
        Due.is("4: one place fell", x.get(0, 1, 2), 33);
        for (int kind = 0; kind < 4; kind++) {
            NestTables y = new NestTables();
            y.table(kind, 1);
            y.table(kind, 1);
            y.row(0, 0, 2);
            Due.is("4: share of kind " + kind, y.share(1, 0, 0, 0), 1);
            y.put(0, 0, 1, 1000);
            y.put(0, 0, 1, 1);
            Due.is("4: the same of kind " + kind, y.get(1, 0, 1), y.get(0, 0, 1));
        }
    }

    private static void promise4Order() {
        NestTables x = with(NUMBERS, new int[][] {{1}, null});
        add(x, BITS, new int[][] {{1}, null});
        for (int t : WRONG) {
            Due.is("4: UNKNOWN", x.share(t, 0, 0, 0), UNKNOWN);
            Due.is("4: UNKNOWN of the other", x.share(0, 0, t, 0), UNKNOWN);
            Due.is("4: UNKNOWN ahead of INDEX", x.share(0, 5, t, 0), UNKNOWN);
        }
        Due.is("4: no FAIL", x.count(3), 0);
        Due.is("4: i", x.share(0, 2, 0, 0), INDEX);
        Due.is("4: i", x.share(0, -1, 0, 0), INDEX);
        Due.is("4: j", x.share(0, 0, 0, 2), INDEX);
        Due.is("4: j", x.share(0, 0, 0, MIN), INDEX);
        Due.is("4: INDEX (i) ahead of NULL", x.share(0, 2, 0, 1), INDEX);
        Due.is("4: INDEX ahead of STORE", x.share(0, 2, 1, 0), INDEX);
        Due.is("4: NULL", x.share(0, 0, 0, 1), NULL);
        Due.is("4: NULL ahead of STORE", x.share(0, 0, 1, 1), NULL);
        Due.is("4: STORE", x.share(0, 0, 1, 0), STORE);
        Due.is("4: STORE to a fallen place", x.share(1, 1, 0, 0), STORE);
        Due.is("4: FAILS", x.count(3), 10);
        holds("4: unchanged", x, 0, NUMBERS, new int[][] {{1}, null});
        holds("4: unchanged", x, 1, BITS, new int[][] {{1}, null});
    }

    private static void promise5() {
        NestTables x = with(NUMBERS, new int[][] {{1}, null, {2}});
        Due.is("5: it stood", x.fall(0, 0), 1);
        Due.is("5: it is fallen", x.fall(0, 0), 0);
        Due.is("5: it was fallen at first", x.fall(0, 1), 0);
        Due.is("5: get", x.get(0, 0, 0), NULL);
        Due.is("5: the others stand", x.get(0, 2, 0), 2);
        Due.is("5: fallen", x.count(2), 2);
        Due.is("5: rows", x.count(1), 1);
        for (int t : WRONG) {
            Due.is("5: UNKNOWN", x.fall(t, 0), UNKNOWN);
        }
        Due.is("5: place 3", x.fall(0, 3), INDEX);
        Due.is("5: place -1", x.fall(0, -1), INDEX);
        Due.is("5: place MIN", x.fall(0, MIN), INDEX);
        Due.is("5: FAILS", x.count(3), 4);
        Due.is("5: a row comes again", x.row(0, 0, 2), 1);
        Due.is("5: its cells are new", x.get(0, 0, 0), 0);
    }

    private static void promise6() {
        NestTables x = new NestTables();
        x.table(BITS, 2);
        x.table(NUMBERS, 2);
        x.row(0, 0, 5);
        x.row(1, 0, 5);
        int[] values = {0, 1, -1, MAX, MIN};
        for (int j = 0; j < 5; j++) {
            Due.is("6: put a bit", x.put(0, 0, j, values[j]), 1);
            Due.is("6: put a number", x.put(1, 0, j, values[j]), 1);
        }
        for (int j = 0; j < 5; j++) {
            Due.is("6: the bit of " + values[j], x.get(0, 0, j), values[j] == 0 ? 0 : 1);
            Due.is("6: the number", x.get(1, 0, j), values[j]);
        }
        Due.is("6: back to 0", x.put(0, 0, 3, 0), 1);
        Due.is("6: back to 0", x.get(0, 0, 3), 0);
        Due.is("6: v need be no table", x.put(1, 0, 0, 99), 1);
        for (int t : WRONG) {
            Due.is("6: UNKNOWN", x.put(t, 0, 0, 1), UNKNOWN);
        }
        Due.is("6: UNKNOWN ahead", x.put(2, 9, 9, 1), UNKNOWN);
        Due.is("6: no FAIL", x.count(3), 0);
        Due.is("6: place 2", x.put(1, 2, 0, 1), INDEX);
        Due.is("6: place -1", x.put(1, -1, 0, 1), INDEX);
        Due.is("6: fallen", x.put(1, 1, 0, 1), NULL);
        Due.is("6: fallen, no such cell", x.put(1, 1, 99, 1), NULL);
        Due.is("6: cell 5", x.put(1, 0, 5, 1), INDEX);
        Due.is("6: cell -1", x.put(1, 0, -1, 1), INDEX);
        Due.is("6: cell MIN", x.put(1, 0, MIN, 1), INDEX);
        Due.is("6: FAILS", x.count(3), 7);
        Due.is("6: unchanged", x.get(1, 0, 4), MIN);
    }

    private static void promise6Reals() {
        int[] thousandths = {0, 1, -1, 2500, -2999, 333, MAX, MIN};
        NestTables x = with(REALS, new int[][] {thousandths});
        for (int j = 0; j < thousandths.length; j++) {
            Due.real("6: the real of " + thousandths[j], x.real(0, 0, j), thousandths[j] / 1000.0);
        }
    }

    private static void promise6Links() {
        NestTables x = new NestTables();
        x.table(LINKS, 2);
        x.table(BITS, 0);
        x.row(0, 0, 3);
        Due.is("6: link to itself", x.put(0, 0, 0, 0), 1);
        Due.is("6: link to bits", x.put(0, 0, 1, 1), 1);
        Due.is("6: get", x.get(0, 0, 0), 0);
        Due.is("6: get", x.get(0, 0, 1), 1);
        Due.is("6: get", x.get(0, 0, 2), NONE);
        Due.is("6: table 2 is not there", x.put(0, 0, 1, 2), UNKNOWN);
        Due.is("6: -1", x.put(0, 0, 1, -1), UNKNOWN);
        Due.is("6: UNKNOWN as v", x.put(0, 0, 1, UNKNOWN), UNKNOWN);
        Due.is("6: v ahead of INDEX", x.put(0, 2, 1, 2), UNKNOWN);
        Due.is("6: v ahead of NULL", x.put(0, 1, 0, 2), UNKNOWN);
        Due.is("6: v ahead of INDEX of a cell", x.put(0, 0, 3, 2), UNKNOWN);
        Due.is("6: unchanged", x.get(0, 0, 1), 1);
        Due.is("6: no FAIL", x.count(3), 0);
        Due.is("6: NONE, place 2", x.put(0, 2, 0, NONE), INDEX);
        Due.is("6: NONE, fallen", x.put(0, 1, 0, NONE), NULL);
        Due.is("6: to none", x.put(0, 0, 1, NONE), 1);
        Due.is("6: none", x.get(0, 0, 1), NONE);
        x.table(BITS, 0);
        Due.is("6: table 2 is there now", x.put(0, 0, 1, 2), 1);
        Due.is("6: get", x.get(0, 0, 1), 2);
    }

    private static void promise7() {
        NestTables x = with(REALS, new int[][] {{2999, -2999, 999, -999, MAX, MIN, 1000, -1000}, null});
        holds("7: cut", x, 0, REALS, new int[][] {{2, -2, 0, 0, 2147483, -2147483, 1, -1}, null});
        for (int t : WRONG) {
            Due.is("7: UNKNOWN", x.get(t, 0, 0), UNKNOWN);
            Due.is("7: UNKNOWN ahead", x.get(t, 7, 99), UNKNOWN);
        }
        int fails = x.count(3);
        Due.is("7: place 2", x.get(0, 2, 0), INDEX);
        Due.is("7: place -1", x.get(0, -1, 0), INDEX);
        Due.is("7: fallen", x.get(0, 1, 0), NULL);
        Due.is("7: fallen, no such cell", x.get(0, 1, 99), NULL);
        Due.is("7: cell 8", x.get(0, 0, 8), INDEX);
        Due.is("7: cell -1", x.get(0, 0, -1), INDEX);
        Due.is("7: cell MAX", x.get(0, 0, MAX), INDEX);
        Due.is("7: FAILS", x.count(3), fails + 7);
        NestTables y = with(NUMBERS, new int[][] {{UNKNOWN, NULL, NONE, INDEX}});
        holds("7: numbers like codes", y, 0, NUMBERS, new int[][] {{UNKNOWN, NULL, NONE, INDEX}});
        Due.is("7: these are no FAILS", y.count(3), 0);
        NestTables z = with(REALS, new int[][] {{MAX, MIN}});
        z.table(REALS, 2);
        z.row(1, 0, 1);
        z.row(1, 1, 1);
        z.put(1, 0, 0, MAX);
        z.product(0, 1);
        Due.is("7: beyond 32 bits", z.get(2, 0, 0), MAX);
        z.put(1, 0, 0, MIN);
        z.product(0, 1);
        Due.is("7: below 32 bits", z.get(3, 0, 0), MIN);
    }

    private static void promise8() {
        NestTables x = with(REALS, new int[][] {{2500, -1}, null});
        add(x, BITS, new int[][] {{1}});
        add(x, NUMBERS, new int[][] {{5}});
        add(x, LINKS, new int[][] {{1}});
        Due.real("8: real", x.real(0, 0, 0), 2.5);
        Due.real("8: real", x.real(0, 0, 1), -0.001);
        for (int t = 1; t < 4; t++) {
            Due.real("8: of other kinds", x.real(t, 0, 0), 0.0);
        }
        for (int t : WRONG) {
            Due.real("8: UNKNOWN", x.real(t, 0, 0), 0.0);
        }
        int[][] wrong = {{0, 1, 0}, {0, 2, 0}, {0, -1, 0}, {0, 0, 2}, {0, 0, -1}, {0, MAX, MAX}, {0, MIN, MIN}, {2, 1, 0}, {2, 0, 1}};
        for (int[] w : wrong) {
            Due.real("8: where get() FAILS", x.real(w[0], w[1], w[2]), 0.0);
        }
        Due.is("8: that is no FAIL", x.count(3), 0);
    }

    private static void promise9() {
        NestTables x = with(LINKS, new int[][] {{0, 0}, null});
        Due.is("9: kind", x.told(0, 0, 0), LINKS);
        Due.is("9: kind, whatever i", x.told(0, 99, 0), LINKS);
        Due.is("9: places, whatever i", x.told(0, -1, 1), 2);
        Due.is("9: length", x.told(0, 0, 2), 2);
        for (int t : WRONG) {
            Due.is("9: UNKNOWN", x.told(t, 0, 0), UNKNOWN);
            Due.is("9: UNKNOWN ahead", x.told(t, 0, 3), UNKNOWN);
        }
        Due.is("9: what 3", x.told(0, 0, 3), OUTSIDE);
        Due.is("9: what -1", x.told(0, 0, -1), OUTSIDE);
        Due.is("9: what MIN", x.told(0, 9, MIN), OUTSIDE);
        Due.is("9: no FAIL", x.count(3), 0);
        Due.is("9: fallen", x.told(0, 1, 2), NULL);
        Due.is("9: place 2", x.told(0, 2, 2), INDEX);
        Due.is("9: place -1", x.told(0, -1, 2), INDEX);
        Due.is("9: FAILS", x.count(3), 3);
    }

    private static void promise10() {
        NestTables x = new NestTables();
        Due.is("10: square", x.odd(add(x, NUMBERS, new int[][] {{1, 2}, {3, 4}})), NONE);
        Due.is("10: no places", x.odd(add(x, LINKS, new int[][] {})), NONE);
        Due.is("10: fallen", x.odd(add(x, BITS, new int[][] {{1, 1}, null})), 1);
        Due.is("10: too short", x.odd(add(x, BITS, new int[][] {{1, 1, 1}, {1, 1}, null})), 1);
        Due.is("10: too long", x.odd(add(x, REALS, new int[][] {{1, 1}, {1}})), 1);
        Due.is("10: even, but not square", x.odd(add(x, REALS, new int[][] {{1, 1, 1}, {1, 1, 1}})), 0);
        Due.is("10: without cells", x.odd(add(x, BITS, new int[][] {{}})), 0);
        for (int t : WRONG) {
            Due.is("10: UNKNOWN", x.odd(t), UNKNOWN);
        }
        Due.is("10: no FAIL", x.count(3), 0);
    }

    private static void promise11() {
        NestTables x = with(NUMBERS, new int[][] {{1, 2, 3, 4, 5}, {6, 7, 8}});
        add(x, NUMBERS, new int[][] {{9, 9, 9, 9}});
        Due.is("11: to another", x.copy(0, 0, 1, 1, 0, 2, 2), 1);
        holds("11: to another", x, 1, NUMBERS, new int[][] {{9, 9, 2, 3}});
        Due.is("11: onward in one row", x.copy(0, 0, 0, 0, 0, 1, 4), 1);
        holds("11: onward", x, 0, NUMBERS, new int[][] {{1, 1, 2, 3, 4}, {6, 7, 8}});
        Due.is("11: back in one row", x.copy(0, 0, 1, 0, 0, 0, 4), 1);
        holds("11: back", x, 0, NUMBERS, new int[][] {{1, 2, 3, 4, 4}, {6, 7, 8}});
        x.share(1, 0, 0, 0);
        Due.is("11: one row at two places", x.copy(0, 0, 0, 1, 0, 1, 4), 1);
        holds("11: one row", x, 0, NUMBERS, new int[][] {{1, 1, 2, 3, 4}, {6, 7, 8}});
        Due.is("11: all", x.copy(0, 1, 0, 1, 0, 2, 3), 1);
        holds("11: all", x, 0, NUMBERS, new int[][] {{1, 1, 6, 7, 8}, {6, 7, 8}});
        NestTables b = with(BITS, new int[][] {{1, 1, 0}, {0, 0, 1}});
        Due.is("11: bits", b.copy(0, 0, 0, 0, 1, 1, 2), 1);
        holds("11: bits", b, 0, BITS, new int[][] {{1, 1, 0}, {0, 1, 1}});
        NestTables r = with(REALS, new int[][] {{1500, 2500}, {0, 0}});
        Due.is("11: reals", r.copy(0, 0, 1, 0, 1, 0, 1), 1);
        Due.real("11: reals", r.real(0, 1, 0), 2.5);
        Due.real("11: reals", r.real(0, 1, 1), 0.0);
        NestTables l = with(LINKS, new int[][] {{0, NONE}, {NONE, 0}});
        Due.is("11: links", l.copy(0, 0, 0, 0, 1, 0, 2), 1);
        holds("11: links", l, 0, LINKS, new int[][] {{0, NONE}, {0, NONE}});
    }

    private static void promise11Pieces() {
        NestTables x = with(NUMBERS, new int[][] {{1, 2, 3}, {4, 5}, {}});
        Due.is("11: n = 0", x.copy(0, 0, 0, 0, 1, 0, 0), 1);
        Due.is("11: n = 0 at both ends", x.copy(0, 0, 3, 0, 1, 2, 0), 1);
        Due.is("11: n = 0 of none", x.copy(0, 2, 0, 0, 2, 0, 0), 1);
        int[][] wrong = {{-1, 0, 1}, {0, -1, 1}, {0, 0, -1}, {4, 0, 0}, {0, 3, 0}, {2, 0, 2}, {0, 1, 2}, {0, 0, 3},
            {3, 0, 1}, {0, 2, 1}, {0, 0, MAX}, {MAX, 0, 1}, {0, MAX, 1}, {MAX, MAX, MAX}, {1, 1, MAX}, {MIN, 0, MIN},
            {0, 0, MIN}, {MIN, MIN, 0}, {-1, -1, 1}, {3, 3, -1}};
        for (int k = 0; k < wrong.length; k++) {
            int[] w = wrong[k];
            Due.is("11: piece " + k, x.copy(0, 0, w[0], 0, 1, w[1], w[2]), INDEX);
        }
        Due.is("11: FAILS", x.count(3), wrong.length);
        holds("11: unchanged", x, 0, NUMBERS, new int[][] {{1, 2, 3}, {4, 5}, {}});
    }

    private static void promise11Order() {
        NestTables x = with(NUMBERS, new int[][] {{1, 2, 3}, null});
        add(x, BITS, new int[][] {{1, 1, 1}, null});
        for (int t : WRONG) {
            Due.is("11: UNKNOWN", x.copy(t, 9, 9, 0, 9, 9, 1), UNKNOWN);
            Due.is("11: UNKNOWN of the other", x.copy(0, 9, 9, t, 9, 9, 1), UNKNOWN);
        }
        Due.is("11: no FAIL", x.count(3), 0);
        Due.is("11: i", x.copy(0, 2, 0, 0, 1, 0, 1), INDEX);
        Due.is("11: i", x.copy(0, -1, 0, 0, 0, 0, 1), INDEX);
        Due.is("11: j ahead of NULL", x.copy(0, 1, 0, 0, 2, 0, 1), INDEX);
        Due.is("11: j", x.copy(0, 0, 0, 0, -1, 0, 1), INDEX);
        Due.is("11: from a fallen one", x.copy(0, 1, 0, 0, 0, 0, 1), NULL);
        Due.is("11: to a fallen one", x.copy(0, 0, 0, 0, 1, 0, 1), NULL);
        Due.is("11: NULL ahead of STORE", x.copy(0, 0, 0, 1, 1, 0, 1), NULL);
        Due.is("11: NULL ahead of the cells", x.copy(0, 1, 9, 0, 0, 9, -1), NULL);
        Due.is("11: STORE", x.copy(0, 0, 0, 1, 0, 0, 1), STORE);
        Due.is("11: STORE ahead of the cells", x.copy(0, 0, 9, 1, 0, 0, -1), STORE);
        Due.is("11: STORE of none", x.copy(1, 0, 0, 0, 0, 0, 0), STORE);
        Due.is("11: FAILS", x.count(3), 11);
    }

    private static void promise12() {
        NestTables x = with(NUMBERS, new int[][] {{1, 2, 3}, {4, 5, 6}});
        Due.is("12: turned", x.turned(0), 1);
        holds("12: turned", x, 1, NUMBERS, new int[][] {{1, 4}, {2, 5}, {3, 6}});
        holds("12: the first", x, 0, NUMBERS, new int[][] {{1, 2, 3}, {4, 5, 6}});
        Due.is("12: new rows", x.count(1), 5);
        x.put(0, 0, 0, 99);
        Due.is("12: not the old row", x.get(1, 0, 0), 1);
        NestTables l = with(LINKS, new int[][] {{0, NONE}});
        Due.is("12: links", l.turned(0), 1);
        holds("12: links", l, 1, LINKS, new int[][] {{0}, {NONE}});
        NestTables r = with(REALS, new int[][] {{1500, -2500}});
        Due.is("12: reals", r.turned(0), 1);
        Due.real("12: reals", r.real(1, 0, 0), 1.5);
        Due.real("12: reals", r.real(1, 1, 0), -2.5);
        NestTables b = with(BITS, new int[][] {{0, 1}, {0, 0}});
        b.share(0, 1, 0, 0);
        Due.is("12: bits of one row", b.turned(0), 1);
        holds("12: bits of one row", b, 1, BITS, new int[][] {{0, 0}, {1, 1}});
        Due.is("12: all with new rows", b.same(1, 0, 1, 1), 0);
    }

    private static void promise12Edges() {
        NestTables x = with(NUMBERS, new int[][] {{}, {}});
        Due.is("12: WIDE 0", x.turned(0), 1);
        holds("12: WIDE 0", x, 1, NUMBERS, new int[][] {});
        Due.is("12: no places", x.turned(1), 2);
        holds("12: no places", x, 2, NUMBERS, new int[][] {});
        int wide = add(x, BITS, new int[][] {new int[12]});
        Due.is("12: WIDE 12", x.turned(wide), 4);
        Due.is("12: twelve places", x.told(4, 0, 1), 12);
        int wider = add(x, BITS, new int[][] {new int[13]});
        Due.is("12: WIDE 13", x.turned(wider), STATE);
        int ragged = add(x, BITS, new int[][] {{1, 1}, {1}});
        Due.is("12: ragged", x.turned(ragged), STATE);
        int first = add(x, BITS, new int[][] {{}, {1}});
        Due.is("12: ragged from none", x.turned(first), STATE);
        int fallen = add(x, BITS, new int[][] {{1}, null});
        Due.is("12: fallen", x.turned(fallen), STATE);
        for (int t : WRONG) {
            Due.is("12: UNKNOWN", x.turned(t), UNKNOWN);
        }
        Due.is("12: unchanged", x.count(0), 9);
        fill(x);
        Due.is("12: ROOM", x.turned(0), ROOM);
        Due.is("12: STATE ahead of ROOM", x.turned(ragged), STATE);
        Due.is("12: unchanged", x.count(0), 16);
        Due.is("12: no FAIL", x.count(3), 0);
    }

    private static void promise13() {
        NestTables x = with(NUMBERS, new int[][] {{1, 2, 3}, {4, 5, 6}});
        add(x, NUMBERS, new int[][] {{1, 0, 2, 1}, {0, 1, 0, 1}, {5, 0, 0, -1}});
        Due.is("13: numbers", x.product(0, 1), 2);
        holds("13: numbers", x, 2, NUMBERS, new int[][] {{16, 2, 2, 0}, {34, 5, 8, 3}});
        holds("13: the first", x, 0, NUMBERS, new int[][] {{1, 2, 3}, {4, 5, 6}});
        Due.is("13: does not fit the other way", x.product(1, 0), STATE);
        NestTables w = with(NUMBERS, new int[][] {{MAX, MIN}, {65536, 1}});
        Due.is("13: wrapping", w.product(0, 0), 1);
        holds("13: wrapping", w, 1, NUMBERS, new int[][] {
            {MAX * MAX + MIN * 65536, MAX * MIN + MIN}, {65536 * MAX + 65536, 65536 * MIN + 1}});
        NestTables b = with(BITS, new int[][] {{1, 1, 0}, {0, 0, 1}, {0, 0, 0}});
        add(b, BITS, new int[][] {{1, 0}, {1, 0}, {0, 1}});
        Due.is("13: bits", b.product(0, 1), 2);
        holds("13: bits", b, 2, BITS, new int[][] {{1, 0}, {0, 1}, {0, 0}});
        Due.is("13: new rows", b.count(1), 9);
    }

    private static void promise13Reals() {
        NestTables x = with(REALS, new int[][] {{100, 200, 300}});
        add(x, REALS, new int[][] {{100, 1}, {100, -1500}, {100, 700}});
        Due.is("13: reals", x.product(0, 1), 2);
        Due.real("13: added in order", x.real(2, 0, 0), 0.0 + 0.1 * 0.1 + 0.2 * 0.1 + 0.3 * 0.1);
        Due.real("13: added in order", x.real(2, 0, 1), 0.0 + 0.1 * 0.001 + 0.2 * -1.5 + 0.3 * 0.7);
        Due.is("13: cut", x.get(2, 0, 1), 0);
        NestTables z = with(REALS, new int[][] {{-1, 0}});
        add(z, REALS, new int[][] {{0}, {-5}});
        z.product(0, 1);
        Due.real("13: from 0.0 on", z.real(2, 0, 0), 0.0);
    }

    /** Table 0 becomes endless in both directions by squares: table 6 is its 64th power. */
    private static NestTables endless(int sign) {
        NestTables x = with(REALS, new int[][] {{MAX}});
        for (int t = 0; t < 6; t++) {
            Due.is("13: a square", x.product(t, t), t + 1);
        }
        add(x, REALS, new int[][] {{sign * 1000}});
        x.product(6, 7);
        return x;
    }

    private static void promise13NoNumber() {
        NestTables x = endless(-1);
        double much = Double.POSITIVE_INFINITY;
        Due.real("13: endless", x.real(6, 0, 0), much);
        Due.is("7: endless, cut", x.get(6, 0, 0), MAX);
        Due.real("13: endless below", x.real(8, 0, 0), -much);
        Due.is("7: endless below, cut", x.get(8, 0, 0), MIN);
        int zero = add(x, REALS, new int[][] {{0}});
        int lost = x.product(6, zero);
        Due.real("8: endless * 0 is no number", x.real(lost, 0, 0), 0.0);
        Due.is("7: no number", x.get(lost, 0, 0), 0);
        Due.is("19: no number", x.total(lost), 0);
        Due.is("17: it is not == itself", x.alike(lost, lost), 0);
        int lostToo = x.product(zero, 8);
        Due.is("17: 0 * endless", x.alike(lostToo, lostToo), 0);
        int grown = x.product(lost, 7);
        Due.is("17: no number * -1", x.alike(grown, grown), 0);
        int grownToo = x.product(7, lost);
        Due.is("17: -1 * no number", x.alike(grownToo, grownToo), 0);
        Due.is("17: endless", x.alike(6, 6), 1);
        Due.is("17: endless, below", x.alike(6, 8), 0);
        Due.is("6: a number again", x.put(lost, 0, 0, 1000), 1);
        Due.is("17: a number again", x.alike(lost, lost), 1);
        Due.real("13: -1 * endless", x.real(x.product(7, 6), 0, 0), -much);
        Due.is("13: room is left", x.count(0), 15);
        sums();
        nearlyEndless(1);
        nearlyEndless(-1);
    }

    private static void sums() {
        NestTables x = endless(-1);
        x.table(REALS, 1);
        x.row(9, 0, 4);
        x.copy(6, 0, 0, 9, 0, 0, 1);
        x.copy(8, 0, 0, 9, 0, 1, 1);
        x.put(9, 0, 2, 5000);
        x.table(REALS, 4);
        for (int k = 0; k < 4; k++) {
            x.row(10, k, 4);
        }
        int[][] ones = {{1, 1, 1, 1}, {1, -1, 1, 1}, {1, 1, 0, 2}, {1, 1, 1, 1}};
        for (int k = 0; k < 4; k++) {
            for (int y = 0; y < 4; y++) {
                x.put(10, k, y, ones[k][y] * 1000);
            }
        }
        int made = x.product(9, 10);
        Due.real("13: endless less endless", x.real(made, 0, 0), 0.0);
        Due.real("13: endless and endless", x.real(made, 0, 1), Double.POSITIVE_INFINITY);
        Due.is("17: with one that is no number", x.alike(made, made), 0);
        x.put(made, 0, 0, 0);
        x.put(made, 0, 2, 0);
        Due.is("17: with one left", x.alike(made, made), 0);
        x.put(made, 0, 3, 0);
        Due.is("17: without", x.alike(made, made), 1);
    }

    /** The 48th power, times what brings it near the greatest double: that times 0 is 0. */
    private static void nearlyEndless(int sign) {
        NestTables x = with(REALS, new int[][] {{MAX}});
        for (int t = 0; t < 5; t++) {
            x.product(t, t);
        }
        int power = x.product(4, 5);
        int more = add(x, REALS, new int[][] {{sign * (int) (1.7e308 / x.real(power, 0, 0) * 1000)}});
        int most = x.product(power, more);
        Due.is("13: nearly endless", x.real(most, 0, 0) * sign > 1.6e308 ? 1 : 0, 1);
        Due.is("13: not endless", x.real(most, 0, 0) * sign < 1.75e308 ? 1 : 0, 1);
        int zero = add(x, REALS, new int[][] {{0}});
        int none = x.product(most, zero);
        Due.is("13: times 0 is 0", x.alike(none, zero), 1);
    }

    private static void promise13Edges() {
        NestTables x = with(NUMBERS, new int[][] {{}, {}});
        int none = x.table(NUMBERS, 0);
        Due.is("13: over no k", x.product(0, none), 2);
        holds("13: over no k", x, 2, NUMBERS, new int[][] {{}, {}});
        Due.is("13: of none", x.product(none, none), 3);
        holds("13: of none", x, 3, NUMBERS, new int[][] {});
        Due.is("13: WIDE 0 is not HIGH 2", x.product(none, 0), STATE);
        int bits = add(x, BITS, new int[][] {{1}});
        int numbers = add(x, NUMBERS, new int[][] {{1}});
        int links = add(x, LINKS, new int[][] {{NONE}});
        int ragged = add(x, NUMBERS, new int[][] {{1, 1}, {1}});
        int fallen = add(x, NUMBERS, new int[][] {null});
        Due.is("13: unlike kinds", x.product(bits, numbers), STATE);
        Due.is("13: links", x.product(links, links), STATE);
        Due.is("13: ragged", x.product(ragged, ragged), STATE);
        Due.is("13: ragged the second", x.product(add(x, NUMBERS, new int[][] {{1, 1}}), ragged), STATE);
        Due.is("13: fallen", x.product(fallen, numbers), STATE);
        Due.is("13: fallen the second", x.product(numbers, fallen), STATE);
        for (int t : WRONG) {
            Due.is("13: UNKNOWN", x.product(t, links), UNKNOWN);
            Due.is("13: UNKNOWN of the other", x.product(links, t), UNKNOWN);
        }
        int wide = add(x, NUMBERS, new int[][] {{1, 2, 3, 4, 5, 6, 7, 8, 9, 10, 11, 12, 13, 14, 15, 16}});
        int wider = x.product(numbers, wide);
        Due.is("13: WIDE 16", x.get(wider, 0, 15), 16);
        fill(x);
        Due.is("13: ROOM", x.product(numbers, numbers), ROOM);
        Due.is("13: STATE ahead of ROOM", x.product(links, links), STATE);
        Due.is("13: no FAIL", x.count(3), 0);
        Due.is("13: unchanged", x.count(0), 16);
    }

    private static void promise14() {
        NestTables x = with(BITS, new int[][] {{0, 1, 0, 0}, {0, 0, 1, 0}, {1, 0, 0, 0}, {1, 0, 0, 1}});
        Due.is("14: distances", x.distances(0), 1);
        holds("14: distances", x, 1, NUMBERS, new int[][] {{0, 1, 2, -1}, {2, 0, 1, -1}, {1, 2, 0, -1}, {1, 2, 3, 0}});
        int[][] chain = new int[12][12];
        int[][] away = new int[12][12];
        for (int i = 0; i < 12; i++) {
            for (int j = 0; j < 12; j++) {
                chain[i][j] = i == j + 1 ? 1 : 0;
                away[i][j] = i >= j ? i - j : -1;
            }
        }
        int t = add(x, BITS, chain);
        Due.is("14: a chain", x.distances(t), 3);
        holds("14: a chain", x, 3, NUMBERS, away);
        Due.is("14: a short cut", x.put(t, 11, 0, 1), 1);
        Due.is("14: a short cut", x.distances(t), 4);
        Due.is("14: from 11 to 0", x.get(4, 11, 0), 1);
        Due.is("14: from 11 to 1", x.get(4, 11, 1), 10);
    }

    private static void promise14Edges() {
        NestTables x = new NestTables();
        int none = add(x, BITS, new int[][] {});
        Due.is("14: no places", x.distances(none), 1);
        holds("14: no places", x, 1, NUMBERS, new int[][] {});
        int one = add(x, BITS, new int[][] {{1}});
        Due.is("14: one", x.distances(one), 3);
        holds("14: to itself", x, 3, NUMBERS, new int[][] {{0}});
        Due.is("14: numbers", x.distances(3), STATE);
        int flat = add(x, BITS, new int[][] {{1, 1}});
        Due.is("14: not square", x.distances(flat), STATE);
        int fallen = add(x, BITS, new int[][] {{1, 1}, null});
        Due.is("14: fallen", x.distances(fallen), STATE);
        for (int t : WRONG) {
            Due.is("14: UNKNOWN", x.distances(t), UNKNOWN);
        }
        Due.is("14: unchanged", x.count(0), 6);
        fill(x);
        Due.is("14: ROOM", x.distances(one), ROOM);
        Due.is("14: STATE ahead of ROOM", x.distances(flat), STATE);
        Due.is("14: no FAIL", x.count(3), 0);
    }

    private static void promise15And16() {
        NestTables x = with(BITS, new int[][] {{1, 0, 1}, {}, {1, 1}});
        Due.is("15: pack", x.pack(0), 1);
        Due.is("16: 10111 from the lowest on", x.word(0), 1 + 4 + 8 + 16);
        for (int i : new int[] {1, -1, 6, MAX, MIN}) {
            Due.is("16: NONE", x.word(i), NONE);
        }
        int[][] full = new int[12][16];
        for (int[] row : full) {
            java.util.Arrays.fill(row, 1);
        }
        int t = add(x, BITS, full);
        Due.is("15: all", x.pack(t), 6);
        for (int i = 0; i < 6; i++) {
            Due.is("16: all", x.word(i), -1);
        }
        Due.is("16: NONE", x.word(6), NONE);
        int odd = add(x, BITS, new int[][] {new int[16], {0, 0, 0, 0, 0, 0, 0, 0, 0, 0, 0, 0, 0, 0, 0, 1}, {1}});
        Due.is("15: 33 bits", x.pack(odd), 2);
        Due.is("16: the highest bit", x.word(0), MIN);
        Due.is("16: filled with 0", x.word(1), 1);
        Due.is("16: what was packed before is gone", x.word(2), NONE);
        x.fall(odd, 2);
        Due.is("15: NULL", x.pack(odd), NULL);
        Due.is("16: unchanged", x.word(0), MIN);
        x.put(odd, 1, 15, 0);
        Due.is("16: as it was packed", x.word(0), MIN);
        Due.is("15: FAILS", x.count(3), 1);
    }

    private static void promise15Edges() {
        NestTables x = with(BITS, new int[][] {new int[16], new int[16]});
        Due.is("15: 32 bits", x.pack(0), 1);
        Due.is("16: 0", x.word(0), 0);
        int numbers = add(x, NUMBERS, new int[][] {null});
        Due.is("15: STATE ahead of NULL", x.pack(numbers), STATE);
        Due.is("16: unchanged", x.word(0), 0);
        for (int t : WRONG) {
            Due.is("15: UNKNOWN", x.pack(t), UNKNOWN);
        }
        Due.is("15: no FAIL", x.count(3), 0);
        Due.is("15: no bits", x.pack(add(x, BITS, new int[][] {{}, {}})), 0);
        Due.is("16: no words", x.word(0), NONE);
        Due.is("15: no places", x.pack(add(x, BITS, new int[][] {})), 0);
        Due.is("15: fallen first", x.pack(add(x, BITS, new int[][] {null, {1}})), NULL);
    }

    private static void promise17() {
        NestTables x = with(NUMBERS, new int[][] {{1, 2}, null, {}});
        int like = add(x, NUMBERS, new int[][] {{1, 2}, null, {}});
        Due.is("17: alike", x.alike(0, like), 1);
        Due.is("17: itself", x.alike(0, 0), 1);
        int[][][] unlike = {{{1, 3}, null, {}}, {{1}, null, {}}, {{1, 2, 0}, null, {}}, {{1, 2}, {}, {}},
            {{1, 2}, null, null}, {{1, 2}, null}, {{1, 2}, null, {}, null}};
        for (int k = 0; k < unlike.length; k++) {
            int t = add(x, NUMBERS, unlike[k]);
            Due.is("17: unlike " + k, x.alike(0, t), 0);
            Due.is("17: unlike " + k, x.alike(t, 0), 0);
        }
        Due.is("17: unlike kinds without cells", x.alike(x.table(BITS, 0), x.table(NUMBERS, 0)), 0);
        for (int t : WRONG) {
            Due.is("17: UNKNOWN", x.alike(t, 0), UNKNOWN);
            Due.is("17: UNKNOWN", x.alike(0, t), UNKNOWN);
        }
        NestTables l = with(LINKS, new int[][] {{0, NONE}});
        add(l, LINKS, new int[][] {{0, NONE}});
        add(l, LINKS, new int[][] {{1, NONE}});
        add(l, LINKS, new int[][] {{0, 0}});
        Due.is("17: links", l.alike(0, 1), 1);
        Due.is("17: links to others, that are alike", l.alike(1, 2), 0);
        Due.is("17: a link and none", l.alike(0, 3), 0);
        NestTables f = with(NUMBERS, new int[12][16]);
        add(f, NUMBERS, new int[12][16]);
        Due.is("17: as large as can be", f.alike(0, 1), 1);
        f.put(1, 11, 15, 1);
        Due.is("17: the last cell", f.alike(0, 1), 0);
        NestTables b = with(BITS, new int[][] {{7}});
        add(b, BITS, new int[][] {{-1}});
        Due.is("17: bits", b.alike(0, 1), 1);
        Due.is("17: no FAIL", x.count(3), 0);
    }

    private static void promise17NoNumber() {
        NestTables x = with(REALS, new int[][] {{1500, -1}});
        add(x, REALS, new int[][] {{1500, -1}});
        add(x, REALS, new int[][] {{1501, -1}});
        Due.is("17: reals", x.alike(0, 1), 1);
        Due.is("17: reals that differ below one", x.alike(0, 2), 0);
        NestTables y = endless(-1);
        int zero = add(y, REALS, new int[][] {{0}});
        int lost = y.product(6, zero);
        int copied = add(y, REALS, new int[][] {{0}});
        Due.is("17: no number and 0", y.alike(lost, zero), 0);
        y.copy(lost, 0, 0, copied, 0, 0, 1);
        Due.is("11: a copy of no number", y.alike(copied, copied), 0);
        int turned = y.turned(lost);
        Due.is("12: no number turned", y.alike(turned, turned), 0);
        y.copy(zero, 0, 0, copied, 0, 0, 1);
        Due.is("11: a number over it", y.alike(copied, zero), 1);
        y.row(lost, 0, 1);
        Due.is("3: a new row instead", y.alike(lost, zero), 1);
    }

    private static void promise18() {
        NestTables x = with(NUMBERS, new int[][] {{1}, {1}, null, null});
        add(x, NUMBERS, new int[][] {null});
        x.share(1, 0, 0, 0);
        Due.is("18: one row", x.same(0, 0, 1, 0), 1);
        Due.is("18: the same place", x.same(0, 1, 0, 1), 1);
        Due.is("18: alike only", x.same(0, 0, 0, 1), 0);
        Due.is("18: one is fallen", x.same(0, 0, 0, 2), 0);
        Due.is("18: one is fallen", x.same(0, 2, 0, 0), 0);
        Due.is("18: both are fallen", x.same(0, 2, 0, 3), 0);
        Due.is("18: the same fallen place", x.same(0, 2, 0, 2), 0);
        for (int t : WRONG) {
            Due.is("18: UNKNOWN", x.same(t, 9, 0, 9), UNKNOWN);
            Due.is("18: UNKNOWN", x.same(0, 9, t, 9), UNKNOWN);
        }
        Due.is("18: no FAIL", x.count(3), 0);
        Due.is("18: i", x.same(0, 4, 0, 2), INDEX);
        Due.is("18: i", x.same(0, -1, 0, 0), INDEX);
        Due.is("18: j", x.same(0, 2, 1, 1), INDEX);
        Due.is("18: j", x.same(0, 0, 1, MIN), INDEX);
        Due.is("18: FAILS", x.count(3), 4);
    }

    private static void promise19() {
        NestTables x = with(BITS, new int[][] {{1, 0, 1}, {}, {1}});
        Due.is("19: bits", x.total(0), 3);
        int numbers = add(x, NUMBERS, new int[][] {{MAX, 1}, {-5}});
        Due.is("19: wrapping", x.total(numbers), MIN - 5);
        int reals = add(x, REALS, new int[][] {{1900, 1900, -1900, -500}});
        Due.is("19: cut each", x.total(reals), 1);
        int links = add(x, LINKS, new int[][] {{0, NONE, reals}, {0}});
        Due.is("19: links", x.total(links), 7);
        int over = add(x, LINKS, new int[][] {{links, links, reals}});
        Due.is("19: links of links", x.total(over), 15);
        Due.is("19: no places", x.total(add(x, LINKS, new int[][] {})), 0);
        int shared = add(x, NUMBERS, new int[][] {{7}, null});
        x.share(shared, 1, shared, 0);
        Due.is("19: one row at two places", x.total(shared), 14);
        int like = add(x, NUMBERS, new int[][] {{NULL}});
        Due.is("19: like a code", x.total(like), NULL);
        for (int t : WRONG) {
            Due.is("19: UNKNOWN", x.total(t), UNKNOWN);
        }
        Due.is("19: no FAIL", x.count(3), 0);
    }

    private static void promise19Faults() {
        NestTables x = with(NUMBERS, new int[][] {{1}, null});
        Due.is("19: NULL", x.total(0), NULL);
        int links = add(x, LINKS, new int[][] {{0}});
        Due.is("19: NULL in one linked", x.total(links), NULL);
        x.put(links, 0, 0, links);
        Due.is("19: RING", x.total(links), RING);
        int ringFirst = add(x, LINKS, new int[][] {{links}, null});
        Due.is("19: RING comes first", x.total(ringFirst), RING);
        int nullFirst = add(x, LINKS, new int[][] {null, {links}});
        Due.is("19: NULL comes first", x.total(nullFirst), NULL);
        int cell = add(x, LINKS, new int[][] {{0, links}});
        Due.is("19: the first cell comes first", x.total(cell), NULL);
        int cellToo = add(x, LINKS, new int[][] {{links, 0}});
        Due.is("19: the first cell comes first", x.total(cellToo), RING);
        Due.is("19: FAILS", x.count(3), 7);
        x.put(links, 0, 0, NONE);
        x.row(0, 1, 0);
        Due.is("19: no mark was left", x.total(links), 0);
        Due.is("19: no mark was left", x.total(cellToo), 1);
        Due.is("19: no mark was left", x.total(0), 1);
        x.clear();
        x.table(LINKS, 1);
        x.table(LINKS, 1);
        x.row(0, 0, 1);
        x.row(1, 0, 1);
        x.put(0, 0, 0, 1);
        x.put(1, 0, 0, 0);
        Due.is("19: a ring of two", x.total(0), RING);
        Due.is("19: from the other side", x.total(1), RING);
        Due.is("20: a ring of two", x.entered(), 2);
        chains();
    }

    /** All sixteen tables one below the other: no ring, until the last one is linked to any of them. */
    private static void chains() {
        NestTables x = new NestTables();
        for (int t = 0; t < 16; t++) {
            x.table(LINKS, 1);
            x.row(t, 0, 1);
        }
        for (int t = 0; t < 15; t++) {
            x.put(t, 0, 0, t + 1);
        }
        Due.is("19: sixteen in a chain", x.total(0), 0);
        Due.is("20: sixteen in a chain", x.entered(), 16);
        Due.is("21: sixteen in a chain", x.deep(0), 16);
        for (int t = 0; t < 16; t++) {
            x.put(15, 0, 0, t);
            Due.is("19: closed", x.total(0), RING);
            Due.is("20: closed", x.entered(), 16);
            Due.is("21: closed", x.deep(0), RING);
        }
        x.put(15, 0, 0, NONE);
        Due.is("19: open again", x.total(0), 0);
        Due.is("21: open again", x.deep(0), 16);
    }

    /** Table 2 enters itself, 99 times table 1 with nine of table 0 each, and 9 times table 0: 1000 tables. */
    private static void promise19Spent() {
        NestTables x = with(NUMBERS, new int[][] {{1}});
        add(x, LINKS, new int[][] {{0, 0, 0, 0, 0, 0, 0, 0, 0}});
        x.table(LINKS, 10);
        x.row(2, 0, 16);
        for (int j = 0; j < 16; j++) {
            x.put(2, 0, j, 1);
        }
        for (int i = 1; i < 6; i++) {
            x.share(2, i, 2, 0);
        }
        x.row(2, 6, 3);
        x.copy(2, 0, 0, 2, 6, 0, 3);
        x.share(2, 7, 1, 0);
        x.row(2, 8, 1);
        x.row(2, 9, 0);
        Due.is("19: 1000 tables", x.total(2), 900);
        Due.is("20: 1000 tables", x.entered(), 1000);
        x.put(2, 8, 0, 0);
        Due.is("19: the 1001st", x.total(2), SPENT);
        Due.is("20: the 1001st is not entered", x.entered(), 1000);
        Due.is("19: FAILS", x.count(3), 1);
        x.put(2, 8, 0, 2);
        Due.is("19: a ring there", x.total(2), RING);
        x.put(2, 8, 0, 0);
        x.fall(2, 9);
        Due.is("19: SPENT comes first", x.total(2), SPENT);
        x.put(2, 8, 0, NONE);
        Due.is("19: NULL comes now", x.total(2), NULL);
        Due.is("20: and all were entered", x.entered(), 1000);
        x.row(2, 9, 0);
        Due.is("19: no mark was left", x.total(2), 900);
        Due.is("19: nor below", x.total(1), 9);
        Due.is("20: anew", x.entered(), 10);
    }

    private static void promise20() {
        NestTables x = with(NUMBERS, new int[][] {{1}});
        int links = add(x, LINKS, new int[][] {{0, 0, NONE}, {0}});
        Due.is("20: at first", x.entered(), 0);
        x.total(0);
        Due.is("20: the first one", x.entered(), 1);
        x.total(links);
        Due.is("20: each as often as it was", x.entered(), 4);
        Due.is("20: asked twice", x.entered(), 4);
        x.deep(links);
        Due.is("20: deep() enters none", x.entered(), 4);
        x.total(99);
        Due.is("20: nothing changes by UNKNOWN", x.entered(), 4);
        x.fall(0, 0);
        x.total(links);
        Due.is("20: with the one that failed", x.entered(), 2);
        x.put(links, 0, 1, links);
        x.row(0, 0, 1);
        x.total(links);
        Due.is("20: up to the ring", x.entered(), 2);
        Due.is("20: is no FAIL", x.count(3), 2);
    }

    private static void promise21() {
        NestTables x = with(BITS, new int[][] {{1}});
        add(x, NUMBERS, new int[][] {{0}});
        add(x, REALS, new int[][] {{1}});
        for (int t = 0; t < 3; t++) {
            Due.is("21: other kinds", x.deep(t), 0);
        }
        int empty = x.table(LINKS, 2);
        Due.is("21: fallen places", x.deep(empty), 1);
        Due.is("21: no places", x.deep(x.table(LINKS, 0)), 1);
        x.row(empty, 1, 2);
        Due.is("21: linked to none", x.deep(empty), 1);
        x.put(empty, 1, 1, 0);
        Due.is("21: linked to bits", x.deep(empty), 1);
        int two = add(x, LINKS, new int[][] {null, {0, empty, 1}});
        Due.is("21: two", x.deep(two), 2);
        int three = add(x, LINKS, new int[][] {{empty}, {two}, {empty, NONE}, null});
        Due.is("21: the deepest", x.deep(three), 3);
        x.put(empty, 1, 0, three);
        Due.is("21: RING", x.deep(three), RING);
        Due.is("21: RING", x.deep(empty), RING);
        Due.is("21: FAILS", x.count(3), 2);
        x.put(empty, 1, 0, empty);
        Due.is("21: RING below", x.deep(three), RING);
        Due.is("21: not reached", x.deep(0), 0);
        x.put(empty, 1, 0, NONE);
        Due.is("21: no mark was left", x.deep(three), 3);
        Due.is("19: no mark was left", x.total(empty), NULL);
        for (int t : WRONG) {
            Due.is("21: UNKNOWN", x.deep(t), UNKNOWN);
        }
        Due.is("21: FAILS", x.count(3), 4);
    }

    /** More ways through the links than could ever be gone one by one. */
    private static void promise21Ways() {
        NestTables x = new NestTables();
        for (int t = 0; t < 16; t++) {
            x.table(LINKS, 12);
            x.row(t, 0, 16);
            for (int j = 0; j < 16 && t > 0; j++) {
                x.put(t, 0, j, t - 1);
            }
            for (int i = 1; i < 12; i++) {
                x.share(t, i, t, 0);
            }
        }
        Due.is("21: many ways", x.deep(15), 16);
        Due.is("19: many ways", x.total(15), SPENT);
        Due.is("20: many ways", x.entered(), 1000);
        x.put(0, 0, 15, 15);
        Due.is("21: many ways round", x.deep(15), RING);
        x.put(0, 0, 15, NONE);
        Due.is("21: many ways", x.deep(7), 8);
    }

    private static void promise22() {
        NestTables x = with(NUMBERS, new int[][] {{1}, null, {2}, null});
        add(x, NUMBERS, new int[][] {null, {1}});
        x.share(1, 0, 0, 0);
        x.share(0, 1, 0, 0);
        Due.is("22: tables", x.count(0), 2);
        Due.is("22: rows, each once", x.count(1), 3);
        Due.is("22: fallen", x.count(2), 1);
        Due.is("22: FAILS", x.count(3), 0);
        x.fall(0, 0);
        Due.is("22: it stands elsewhere", x.count(1), 3);
        x.fall(0, 1);
        x.fall(1, 0);
        Due.is("22: it stands nowhere", x.count(1), 2);
        Due.is("22: fallen", x.count(2), 4);
        x.row(0, 2, 5);
        Due.is("22: another in its place", x.count(1), 2);
        for (int what : new int[] {-1, 4, MAX, MIN}) {
            Due.is("22: OUTSIDE", x.count(what), OUTSIDE);
        }
        x.get(7, 0, 0);
        x.table(9, 9);
        x.turned(1);
        x.real(0, 0, 0);
        x.word(99);
        Due.is("22: refused is no FAIL", x.count(3), 0);
        x.get(0, 0, 0);
        x.get(0, 4, 0);
        x.row(0, 0, -1);
        x.table(0, -1);
        Due.is("22: FAILS", x.count(3), 4);
    }

    private static void promise23() {
        NestTables x = with(BITS, new int[][] {{1, 1}, null});
        add(x, LINKS, new int[][] {{0, 1}});
        x.pack(0);
        x.row(0, 1, 2);
        x.pack(0);
        x.total(1);
        Due.is("23: entered", x.entered(), 2);
        Due.is("23: FAILS", x.count(3), 2);
        Due.is("23: clear", x.clear(), 2);
        for (int what = 0; what < 4; what++) {
            Due.is("23: count(" + what + ")", x.count(what), 0);
        }
        Due.is("23: entered", x.entered(), 0);
        Due.is("23: word", x.word(0), NONE);
        Due.is("23: odd", x.odd(0), UNKNOWN);
        Due.is("23: link", x.put(0, 0, 0, 0), UNKNOWN);
        Due.is("23: clear again", x.clear(), 0);
        Due.is("23: table", x.table(NUMBERS, 12), 0);
        Due.is("23: fallen", x.count(2), 12);
        Due.is("23: rows", x.count(1), 0);
        x.row(0, 0, 2);
        Due.is("23: cells", x.get(0, 0, 0), 0);
        Due.is("23: cells", x.get(0, 0, 1), 0);
        Due.is("23: clear", x.clear(), 1);
        Due.is("23: links", x.table(LINKS, 1), 0);
        Due.is("23: no link is left", x.deep(0), 1);
        fill(x);
        Due.is("23: of sixteen", x.clear(), 16);
    }
}
