/** The sentences of promises 2 to 11 (tables, rows, cells) that name a boundary case, each with a test of its own. */
public final class EdgesRowsTest {
    private static final int BITS = Edge.BITS, NUMBERS = Edge.NUMBERS, REALS = Edge.REALS, LINKS = Edge.LINKS;
    private static final int[] NO_PLACE = {-1, -2, Edge.MIN, Edge.MAX, 12, 16, -1000009};

    public static void main(String[] args) {
        tableAllFallen();
        tableRefused();
        rowNew();
        rowRefused();
        shareStandsToo();
        shareRefused();
        fallAnswers();
        fallRefused();
        putBit();
        putNumber();
        putThousandths();
        putLink();
        putLinkUnknown();
        putRefused();
        getRealCut();
        getBeyond32Bits();
        getNoNumber();
        getRefused();
        getAnyNumber();
        realOfReals();
        realOfOthers();
        toldWhat();
        toldRefused();
        oddFirst();
        oddNone();
        copyPieces();
        copyOfOneRow();
        copyRefused();
        copyBeyond();
        Due.end();
    }

    /** Calls with each number that is no place of a table with these many places. */
    private static String noPlace(String form, int places) {
        StringBuilder script = new StringBuilder(String.format(form, places) + " = INDEX; ");
        for (int i : NO_PLACE) {
            script.append(String.format(form, i)).append(" = INDEX; ");
        }
        return script.toString();
    }

    private static void tableAllFallen() {
        for (int kind = 0; kind < 4; kind++) {
            for (int n = 0; n <= 12; n++) {
                StringBuilder script = new StringBuilder(Edge.script("table(%d, %d) = 0", kind, n)
                    + Edge.script("count(2) = %d", n));
                for (int i = 0; i < n; i++) {
                    script.append(Edge.script("told(0, %d, 2) = NULL", i)).append(Edge.script("fall(0, %d) = 0", i));
                }
                Edge.run("2: A TABLE of n places, all FALLEN", script + Edge.script("told(0, %d, 2) = INDEX", n));
            }
        }
        Edge.run("2: all FALLEN, where ROWS stood before clear()", Edge.table(0, NUMBERS, "1 | 2 | 3") + "clear(); "
            + "table(1, 3) = 0; "
            + "told(0, 0, 2) = NULL; told(0, 1, 2) = NULL; told(0, 2, 2) = NULL; count(1) = 0; count(2) = 3");
    }

    private static void tableRefused() {
        String one = Edge.table(0, NUMBERS, "1");
        Edge.refused("2: OUTSIDE: the KIND", one, "table(-1, 0) = OUTSIDE; table(4, 0) = OUTSIDE; table(4, 13) = OUTSIDE; "
            + "table(4, -1) = OUTSIDE");
        Edge.refused("2: OUTSIDE: n above 12", one, "table(0, 13) = OUTSIDE; table(1, 13) = OUTSIDE; table(2, 13) = OUTSIDE; "
            + "table(3, 13) = OUTSIDE; table(3, MAX) = OUTSIDE");
        Edge.each("2: n of 12 is not OUTSIDE", one, "table(0, 12) = 1; table(1, 12) = 1; table(2, 12) = 1; table(3, 12) = 1; "
            + "table(0, 0) = 1");
        Edge.each("2: ROOM is for the sixteenth", Edge.empty(15), "table(0, 0) = 15; table(3, 12) = 15");
        Edge.refused("2: ROOM is not for the seventeenth", Edge.empty(16), "table(0, 0) = ROOM; table(3, 12) = ROOM; "
            + "table(1, -1) = ROOM");
        Edge.refused("2: SIZE", one, "table(0, -1) = SIZE; table(1, -2) = SIZE; table(2, -1) = SIZE; table(3, MIN) = SIZE; "
            + "table(3, -1000001) = SIZE");
    }

    private static void rowNew() {
        String words = "3: A new ROW of so many CELLS to place i";
        for (int cells : new int[] {0, 1, 15, 16}) {
            Edge.run(words, "table(1, 12); " + Edge.script("row(0, 0, %d) = 1", cells) + Edge.script("row(0, 11, %d) = 1", cells)
                + Edge.script("told(0, 0, 2) = %d", cells) + Edge.script("told(0, 11, 2) = %d", cells)
                + "told(0, 1, 2) = NULL; told(0, 10, 2) = NULL; count(1) = 2; count(2) = 10; same(0, 0, 0, 11) = 0");
        }
        Edge.run(words + ", where one stands", Edge.table(0, NUMBERS, "1 2 3") + "row(0, 0, 3) = 1; "
            + Edge.holds(0, NUMBERS, "0 0 0") + "count(1) = 1");
        Edge.run(words + ": the old one is not changed where it stands, too", Edge.table(0, NUMBERS, "1 2 3 | -")
            + "share(0, 1, 0, 0); row(0, 0, 2) = 1; put(0, 0, 0, 9); " + Edge.holds(0, NUMBERS, "9 0 | 1 2 3")
                + "count(1) = 2; same(0, 0, 0, 1) = 0");
        StringBuilder full = new StringBuilder("table(1, 12); ".repeat(16));
        for (int p = 0; p < 192; p++) {
            full.append(Edge.script("row(%d, %d, 16) = 1", p / 12, p % 12));
        }
        Edge.run(words + ", at every place there can be", full + "count(1) = 192; count(2) = 0; put(15, 11, 15, 4); put(0, 0, 15, 5); "
            + "row(15, 11, 16) = 1; get(15, 11, 15) = 0; get(0, 0, 15) = 5; count(1) = 192; same(15, 11, 15, 10) = 0; "
            + "same(15, 11, 0, 0) = 0; row(0, 0, 16) = 1; row(7, 5, 16) = 1; count(1) = 192; same(0, 0, 15, 11) = 0; "
            + "same(7, 5, 15, 11) = 0; same(0, 0, 7, 5) = 0; put(0, 0, 3, 9); get(15, 11, 3) = 0; get(7, 5, 3) = 0");
        Edge.run(words + ", more than there are places", "table(1, 3); row(0, 2, 1); put(0, 2, 0, 8); "
            + "row(0, 0, 1); row(0, 1, 1); ".repeat(240) + "count(1) = 3; same(0, 0, 0, 1) = 0; same(0, 0, 0, 2) = 0; "
            + "same(0, 1, 0, 2) = 0; get(0, 2, 0) = 8; put(0, 0, 0, 6); get(0, 1, 0) = 0");
    }

    private static void rowRefused() {
        String one = Edge.table(0, NUMBERS, "1 2 | -") + "table(1, 0); ";
        Edge.refused("3: UNKNOWN", one, "row(2, 0, 1) = UNKNOWN; row(-1, 0, 1) = UNKNOWN; row(16, 0, 1) = UNKNOWN");
        Edge.refused("3: OUTSIDE: above 16", one, "row(0, 0, 17) = OUTSIDE; row(0, 1, 17) = OUTSIDE; row(0, 0, MAX) = OUTSIDE; "
            + "row(0, 2, 17) = OUTSIDE; row(1, 0, 17) = OUTSIDE");
        Edge.each("3: 16 is not OUTSIDE", one, "row(0, 0, 16) = 1; row(0, 1, 16) = 1; row(0, 0, 0) = 1");
        Edge.refused("3: SIZE", one, "row(0, 0, -1) = SIZE; row(0, 1, -1) = SIZE; row(0, 0, MIN) = SIZE");
        Edge.refused("3: SIZE ahead of INDEX", one, "row(0, 2, -1) = SIZE; row(0, -1, -1) = SIZE; row(1, 0, -1) = SIZE; "
            + "row(0, MAX, MIN) = SIZE");
        Edge.refused("3: INDEX", one, noPlace("row(0, %d, 1)", 2) + noPlace("row(0, %d, 0)", 2) + noPlace("row(1, %d, 16)", 0));
    }

    private static void shareStandsToo() {
        String words = "4: The ROW that stands at place j of another TABLE (or the same one) stands at place i, too";
        for (int kind = 0; kind < 4; kind++) {
            String two = Edge.script("table(%d, 12)", kind) + Edge.script("table(%d, 1)", kind) + "row(0, 11, 2); ";
            Edge.run(words, two + "share(1, 0, 0, 11) = 1; same(1, 0, 0, 11) = 1; put(1, 0, 1, 0); get(0, 11, 1) = 0; "
                + "count(1) = 1; count(2) = 11");
            Edge.run(words, two + "share(0, 0, 0, 11) = 1; same(0, 0, 0, 11) = 1; put(0, 11, 1, 0); get(0, 0, 1) = 0; "
                + "count(1) = 1; count(2) = 11");
        }
        Edge.run(words + ", of no CELLS", Edge.table(0, BITS, ". | -") + "share(0, 1, 0, 0) = 1; told(0, 1, 2) = 0; "
            + "same(0, 0, 0, 1) = 1");
        Edge.run(words + ", over another", Edge.table(0, NUMBERS, "1 | 2 3") + "share(0, 0, 0, 1) = 1; " + Edge.holds(0,
            NUMBERS, "2 3 | 2 3") + "count(1) = 1");
        Edge.run(words + ", over itself", Edge.table(0, NUMBERS, "1 2") + "share(0, 0, 0, 0) = 1; "
            + Edge.holds(0, NUMBERS, "1 2")
            + "count(1) = 1; table(1, 1); row(1, 0, 2); same(0, 0, 1, 0) = 0; get(0, 0, 1) = 2");
    }

    private static void shareRefused() {
        String two = Edge.table(0, NUMBERS, "1 | - | 2") + Edge.table(1, BITS, "1 | -") + "table(1, 0); ";
        Edge.refused("4: UNKNOWN", two, "share(3, 0, 0, 0) = UNKNOWN; share(0, 0, 3, 0) = UNKNOWN; "
            + "share(-1, 0, 0, 0) = UNKNOWN; share(0, 0, -1, 0) = UNKNOWN; share(3, 9, 3, 9) = UNKNOWN");
        Edge.refused("4: INDEX (j)", two, noPlace("share(0, 0, 0, %d)", 3) + noPlace("share(0, 1, 0, %d)", 3)
            + noPlace("share(1, 0, 0, %d)", 3) + noPlace("share(0, 0, 2, %d)", 0));
        Edge.refused("4: INDEX (i)", two, noPlace("share(0, %d, 0, 0)", 3) + noPlace("share(0, %d, 0, 1)", 3)
            + noPlace("share(1, %d, 0, 0)", 2) + noPlace("share(2, %d, 0, 0)", 0));
        Edge.refused("4: NULL", two, "share(0, 0, 0, 1) = NULL; share(0, 1, 0, 1) = NULL; share(1, 0, 1, 1) = NULL");
        Edge.refused("4: NULL ahead of STORE", two, "share(0, 0, 1, 1) = NULL; share(1, 0, 0, 1) = NULL; "
            + "share(1, 1, 0, 1) = NULL");
        for (int kind = 0; kind < 4; kind++) {
            for (int other = 0; other < 4; other++) {
                String pair = Edge.script("table(%d, 1)", kind) + Edge.script("table(%d, 1)", other) + "row(1, 0, 0); ";
                if (kind != other) {
                    Edge.refused("4: STORE", pair, "share(0, 0, 1, 0) = STORE");
                    Edge.refused("4: STORE, over another", pair + "row(0, 0, 1); ", "share(0, 0, 1, 0) = STORE; "
                        + "share(1, 0, 0, 0) = STORE");
                } else {
                    Edge.each("4: of one KIND it is no STORE", pair, "share(0, 0, 1, 0) = 1");
                }
            }
        }
    }

    private static void fallAnswers() {
        Edge.run("5: Place i is FALLEN: 1 if it was not, else 0", "table(1, 12); row(0, 0, 1); row(0, 11, 0); fall(0, 0) = 1; "
            + "fall(0, 0) = 0; "
            + "fall(0, 11) = 1; fall(0, 11) = 0; fall(0, 5) = 0; count(2) = 12; count(1) = 0; told(0, 0, 2) = NULL; "
                + "told(0, 11, 2) = NULL; count(3) = 2");
        Edge.run("5: one place of several", Edge.table(0, NUMBERS, "4 | - | -") + "share(0, 1, 0, 0); share(0, 2, 0, 0); "
            + "fall(0, 1) = 1; "
            + Edge.holds(0, NUMBERS, "4 | - | 4") + "count(1) = 1; fall(0, 0) = 1; fall(0, 2) = 1; count(1) = 0");
    }

    private static void fallRefused() {
        String story = Edge.table(0, NUMBERS, "1 | -") + "table(1, 0); ";
        Edge.refused("5: UNKNOWN", story, "fall(2, 0) = UNKNOWN; fall(-1, 0) = UNKNOWN; fall(2, 9) = UNKNOWN; "
            + "fall(16, 0) = UNKNOWN");
        Edge.refused("5: INDEX", story, noPlace("fall(0, %d)", 2) + noPlace("fall(1, %d)", 0));
        Edge.refused("5: of one that is FALLEN nothing changes", story, "fall(0, 1) = 0");
    }

    private static void putBit() {
        for (String v : new String[] {"1", "-1", "2", "256", "65536", "MAX", "MIN", "NONE", "UNKNOWN"}) {
            Edge.run("6: a bit (whether v is not 0)", "table(0, 1); row(0, 0, 2); put(0, 0, 1, " + v + ") = 1; "
                + "get(0, 0, 1) = 1; get(0, 0, 0) = 0; "
                + "total(0) = 1; put(0, 0, 1, 0) = 1; get(0, 0, 1) = 0; total(0) = 0");
        }
    }

    private static void putNumber() {
        for (String v : new String[] {"0", "1", "-1", "MAX", "MIN", "2147483646", "-2147483647", "NONE", "UNKNOWN", "NULL", "16"}) {
            Edge.run("6: v", "table(1, 1); row(0, 0, 16); put(0, 0, 15, " + v + ") = 1; get(0, 0, 15) = " + v + "; "
                + "get(0, 0, 14) = 0; count(3) = 0");
        }
    }

    private static void putThousandths() {
        int[] values = {0, 1, -1, 999, 1000, 1001, -999, -1000, -1001, 3, 7, 333, Edge.MAX, Edge.MIN, Edge.MAX - 1, -1000009, 16};
        for (int v : values) {
            Edge.run("6: v thousandths (as doubles, / 1000.0)", "table(2, 1); row(0, 0, 16); "
                + Edge.script("put(0, 0, 15, %d) = 1", v)
                + "real(0, 0, 15) = " + v / 1000.0 + "; real(0, 0, 14) = 0.0");
        }
    }

    private static void putLink() {
        Edge.run("6: a LINK to TABLE v (NONE: to none)", "table(3, 1); row(0, 0, 16); " + Edge.empty(15)
            + "put(0, 0, 0, 0) = 1; get(0, 0, 0) = 0; "
            + "put(0, 0, 15, 15) = 1; get(0, 0, 15) = 15; put(0, 0, 15, NONE) = 1; get(0, 0, 15) = NONE; get(0, 0, 1) = NONE; "
                + "put(0, 0, 1, NONE) = 1; get(0, 0, 1) = NONE");
    }

    private static void putLinkUnknown() {
        String story = Edge.table(0, LINKS, "0 NONE | -");
        Edge.refused("6: UNKNOWN (also of v)", story, "put(0, 0, 0, 1) = UNKNOWN; put(0, 0, 0, -1) = UNKNOWN; "
            + "put(0, 0, 1, 16) = UNKNOWN; "
            + "put(0, 0, 1, 15) = UNKNOWN; put(0, 0, 0, MAX) = UNKNOWN; put(0, 0, 0, MIN) = UNKNOWN; "
                + "put(0, 0, 0, UNKNOWN) = UNKNOWN; "
            + "put(0, 0, 0, -1000008) = UNKNOWN; put(0, 0, 0, -1000010) = UNKNOWN");
        Edge.refused("6: UNKNOWN of v ahead of INDEX; NULL; INDEX", story, "put(0, 2, 0, 1) = UNKNOWN; "
            + "put(0, -1, 0, -1) = UNKNOWN; put(0, 1, 0, 1) = UNKNOWN; put(0, 0, 2, 1) = UNKNOWN; put(0, 0, -1, 1) = UNKNOWN");
        Edge.refused("6: sixteen TABLES, v of 16", story + Edge.empty(15), "put(0, 0, 0, 16) = UNKNOWN; "
            + "put(0, 0, 0, -1) = UNKNOWN");
        Edge.each("6: v of other KINDS may be any", Edge.table(0, BITS, "0") + Edge.table(1, NUMBERS, "0") + Edge.table(2,
            REALS, "0"),
            "put(0, 0, 0, 3) = 1; put(1, 0, 0, 3) = 1; put(2, 0, 0, 3) = 1; put(0, 0, 0, -1) = 1; put(1, 0, 0, -1) = 1; "
                + "put(2, 0, 0, -1) = 1");
    }

    private static void putRefused() {
        for (int kind = 0; kind < 4; kind++) {
            String story = Edge.table(0, kind, "0 0 | -") + "table(1, 0); ";
            Edge.refused("6: UNKNOWN", story, "put(2, 0, 0, 0) = UNKNOWN; put(-1, 0, 0, 0) = UNKNOWN; put(2, 9, 9, 0) = UNKNOWN");
            Edge.refused("6: INDEX (the place)", story, noPlace("put(0, %d, 0, 0)", 2) + noPlace("put(0, %d, 9, 0)", 2)
                + noPlace("put(1, %d, 0, 0)", 0));
            Edge.refused("6: NULL", story, "put(0, 1, 0, 0) = NULL; put(0, 1, 2, 0) = NULL; put(0, 1, -1, 0) = NULL");
            Edge.refused("6: INDEX (the CELL)", story, noPlace("put(0, 0, %d, 0)", 2) + "put(0, 0, 3, 0) = INDEX; "
                + "put(0, 0, 15, 0) = INDEX; ");
            Edge.each("6: the first and the last CELL", story, "put(0, 0, 0, 0) = 1; put(0, 0, 1, 0) = 1");
        }
    }

    private static void getRealCut() {
        String words = "7: the real, cut to a whole number";
        int[][] cut = {{0, 0}, {1, 0}, {999, 0}, {1000, 1}, {1001, 1}, {1999, 1}, {2000, 2}, {-1, 0}, {-999, 0}, {-1000, -1},
            {-1001, -1},
            {-1999, -1}, {-2000, -2}, {Edge.MAX, 2147483}, {Edge.MIN, -2147483}};
        for (int[] c : cut) {
            Edge.run(words, "table(2, 1); row(0, 0, 1); " + Edge.script("put(0, 0, 0, %d)", c[0])
                + Edge.script("get(0, 0, 0) = %d", c[1]) + Edge.script("total(0) = %d", c[1]));
        }
    }

    /** Table 2 is 2147483 thousands and so many thousandths more, or as much below 0. */
    private static String aboveThousands(int sign, int thousandths) {
        return Edge.table(0, REALS, "2147483000 1000") + Edge.table(1, REALS, sign * 1000000 + " | " + sign * thousandths)
            + "product(0, 1) = 2; ";
    }

    private static void getBeyond32Bits() {
        String words = "7: beyond 32 bits the nearest of these";
        Edge.run(words, aboveThousands(1, 646000) + "real(2, 0, 0) = 2147483646.0; get(2, 0, 0) = 2147483646; "
            + "total(2) = 2147483646");
        Edge.run(words, aboveThousands(1, 646999) + "get(2, 0, 0) = 2147483646");
        Edge.run(words, aboveThousands(1, 647000) + "real(2, 0, 0) = 2147483647.0; get(2, 0, 0) = MAX; total(2) = MAX");
        Edge.run(words, aboveThousands(1, 648000) + "real(2, 0, 0) = 2147483648.0; get(2, 0, 0) = MAX; total(2) = MAX");
        Edge.run(words, aboveThousands(-1, 647000) + "real(2, 0, 0) = -2147483647.0; get(2, 0, 0) = -2147483647; "
            + "total(2) = -2147483647");
        Edge.run(words, aboveThousands(-1, 648000) + "real(2, 0, 0) = -2147483648.0; get(2, 0, 0) = MIN; total(2) = MIN");
        Edge.run(words, aboveThousands(-1, 649000) + "real(2, 0, 0) = -2147483649.0; get(2, 0, 0) = MIN; total(2) = MIN");
        String large = Edge.table(0, REALS, "MAX") + Edge.table(1, REALS, "MIN");
        Edge.run(words, large + "product(0, 0) = 2; get(2, 0, 0) = MAX; product(0, 1) = 3; get(3, 0, 0) = MIN; "
            + "product(2, 2) = 4; get(4, 0, 0) = MAX; product(2, 3) = 5; get(5, 0, 0) = MIN");
        Edge.run(words + ", without an end, too", large + endless(1) + "real(7, 0, 0) = Infinity; get(7, 0, 0) = MAX; "
            + "product(7, 1) = 8; real(8, 0, 0) = -Infinity; get(8, 0, 0) = MIN");
    }

    /** Squares of table 0 and on: the sixth of them has no end. */
    private static String endless(int last) {
        StringBuilder script = new StringBuilder(Edge.script("product(0, 0) = %d", last + 1));
        for (int t = last + 1; t < last + 6; t++) {
            script.append(Edge.script("product(%d, %d) = %d", t, t, t + 1));
        }
        return script.toString();
    }

    private static void getNoNumber() {
        String story = Edge.table(0, REALS, "MAX") + Edge.table(1, REALS, "0") + endless(1);
        Edge.run("7: what is no number 0", story + "product(7, 1) = 8; get(8, 0, 0) = 0; total(8) = 0; real(8, 0, 0) = 0.0; "
            + "alike(8, 8) = 0; alike(8, 1) = 0");
        Edge.run("8: what is no number: 0.0", story + "product(1, 7) = 8; real(8, 0, 0) = 0.0; get(8, 0, 0) = 0; "
            + "alike(8, 8) = 0; put(8, 0, 0, 2500); real(8, 0, 0) = 2.5; get(8, 0, 0) = 2; alike(8, 8) = 1");
    }

    private static void getRefused() {
        for (int kind = 0; kind < 4; kind++) {
            String story = Edge.table(0, kind, "0 0 | -") + "table(1, 0); ";
            Edge.refused("7: UNKNOWN", story, "get(2, 0, 0) = UNKNOWN; get(-1, 0, 0) = UNKNOWN; get(2, 9, 9) = UNKNOWN; "
                + "get(16, 0, 0) = UNKNOWN");
            Edge.refused("7: INDEX (the place)", story, noPlace("get(0, %d, 0)", 2) + noPlace("get(0, %d, 9)", 2)
                + noPlace("get(1, %d, 0)", 0));
            Edge.refused("7: NULL", story, "get(0, 1, 0) = NULL; get(0, 1, 2) = NULL; get(0, 1, -1) = NULL");
            Edge.refused("7: INDEX (the CELL)", story, noPlace("get(0, 0, %d)", 2) + "get(0, 0, 3) = INDEX; "
                + "get(0, 0, 15) = INDEX; ");
            Edge.each("7: the first and the last CELL", story, "get(0, 0, 0) = 0; get(0, 0, 1) = 0");
            Edge.refused("7: what it answers changes nothing", story, "get(0, 0, 0) = 0");
        }
    }

    private static void getAnyNumber() {
        String codes = "UNKNOWN OUTSIDE STATE ROOM NONE NULL INDEX STORE SIZE RING SPENT";
        Edge.run("7: (It may be any number.) These are no FAILS", Edge.table(0, NUMBERS, codes)
            + Edge.holds(0, NUMBERS, codes) + "count(3) = 0");
    }

    private static void realOfReals() {
        Edge.run("8: The real there", Edge.table(0, REALS, Edge.row("1", 15) + " 2500 | -7") + "real(0, 0, 0) = 0.001; "
            + "real(0, 0, 15) = 2.5; real(0, 1, 0) = -0.007");
    }

    private static void realOfOthers() {
        String story = Edge.table(0, REALS, "1500 | -") + Edge.table(1, BITS, "1 | -") + Edge.table(2, NUMBERS, "7 | -")
            + Edge.table(3, LINKS, "0 | -");
        Edge.refused("8: of other KINDS 0.0", story, "real(1, 0, 0) = 0.0; real(2, 0, 0) = 0.0; real(3, 0, 0) = 0.0");
        StringBuilder script = new StringBuilder("real(4, 0, 0) = 0.0; real(-1, 0, 0) = 0.0; real(16, 9, 9) = 0.0; "
            + "real(MIN, 0, 0) = 0.0; real(MAX, 0, 0) = 0.0; ");
        for (int t = 0; t < 4; t++) {
            script.append(String.format("real(%1$d, 1, 0) = 0.0; real(%1$d, 2, 0) = 0.0; real(%1$d, -1, 0) = 0.0; "
                + "real(%1$d, MAX, 0) = 0.0; "
                + "real(%1$d, MIN, 0) = 0.0; real(%1$d, 12, 0) = 0.0; real(%1$d, 0, 1) = 0.0; real(%1$d, 0, -1) = 0.0; "
                    + "real(%1$d, 0, 16) = 0.0; "
                + "real(%1$d, 0, MAX) = 0.0; real(%1$d, 0, MIN) = 0.0; real(%1$d, 1, 9) = 0.0; ", t));
        }
        Edge.refused("8: where get() is refused or FAILS: 0.0 (that is no FAIL)", story, script.toString());
    }

    private static void toldWhat() {
        String words = "9: The KIND (what = 0), how many places (1), the length of the ROW at place i (2)";
        for (int kind = 0; kind < 4; kind++) {
            Edge.run(words, Edge.script("table(%d, 12)", kind) + "row(0, 0, 16); row(0, 11, 0); "
                + Edge.script("told(0, 0, 0) = %d", kind)
                + "told(0, 0, 1) = 12; told(0, 0, 2) = 16; told(0, 11, 2) = 0");
            Edge.run(words, Edge.script("table(%d, 0)", kind) + Edge.script("told(0, 0, 0) = %d", kind) + "told(0, 0, 1) = 0; "
                + "told(0, 0, 2) = INDEX");
        }
        String story = Edge.table(0, LINKS, "0 0 | -");
        Edge.refused(words + ": of 0 and 1 any i", story, "told(0, 1, 0) = 3; told(0, 2, 0) = 3; told(0, -1, 0) = 3; "
            + "told(0, MAX, 0) = 3; "
            + "told(0, 1, 1) = 2; told(0, 2, 1) = 2; told(0, -1, 1) = 2; told(0, MIN, 1) = 2");
    }

    private static void toldRefused() {
        String story = Edge.table(0, LINKS, "0 0 | -") + "table(0, 0); ";
        Edge.refused("9: UNKNOWN", story, "told(2, 0, 0) = UNKNOWN; told(2, 0, 1) = UNKNOWN; told(2, 0, 2) = UNKNOWN; "
            + "told(-1, 0, 0) = UNKNOWN; told(2, 0, 3) = UNKNOWN; told(2, 0, -1) = UNKNOWN");
        Edge.refused("9: OUTSIDE", story, "told(0, 0, 3) = OUTSIDE; told(0, 0, -1) = OUTSIDE; told(0, 0, MAX) = OUTSIDE; "
            + "told(0, 0, MIN) = OUTSIDE; told(0, 1, 3) = OUTSIDE; told(0, 9, 3) = OUTSIDE; told(1, 0, 3) = OUTSIDE");
        Edge.refused("9: of 2 INDEX", story, noPlace("told(0, %d, 2)", 2) + noPlace("told(1, %d, 2)", 0));
        Edge.refused("9: of 2 NULL", story, "told(0, 1, 2) = NULL");
    }

    private static void oddFirst() {
        String words = "10: The first place at which it is not square";
        Edge.each(words + ": that is FALLEN", Edge.table(0, BITS, "-") + Edge.table(1, BITS, "1 1 | -")
            + Edge.table(2, BITS, "- | 1 1")
            + Edge.table(3, BITS, "1 1 1 | - | -") + "table(3, 12); ", "odd(0) = 0; odd(1) = 1; odd(2) = 0; odd(3) = 1; "
                + "odd(4) = 0");
        Edge.each(words + ": not as many CELLS as there are places", Edge.table(0, NUMBERS, ".")
            + Edge.table(1, NUMBERS, "1 1") + Edge.table(2, NUMBERS, "1 1 | 1")
            + Edge.table(3, NUMBERS, "1 1 | 1 1 1") + Edge.table(4, NUMBERS, "1 | 1 1")
                + Edge.table(5, NUMBERS, "1 1 1 | 1 1 1") + Edge.table(6, NUMBERS, "1 1 1 | 1 | 1 1"),
            "odd(0) = 0; odd(1) = 0; odd(2) = 1; odd(3) = 1; odd(4) = 0; odd(5) = 0; odd(6) = 1");
        Edge.each(words + ": the first of both", Edge.table(0, REALS, "1 1 1 | 1 | -")
            + Edge.table(1, REALS, "1 1 1 | - | 1"), "odd(0) = 1; odd(1) = 1");
        StringBuilder twelve = new StringBuilder("table(1, 12); ");
        for (int i = 0; i < 12; i++) {
            twelve.append(Edge.script("row(0, %d, 12)", i));
        }
        Edge.each(words + ": the last of twelve", twelve + "row(0, 11, 11); ", "odd(0) = 11");
        Edge.each(words + ": the last of twelve", twelve + "row(0, 11, 13); ", "odd(0) = 11");
        Edge.each(words + ": the last of twelve", twelve + "fall(0, 11); ", "odd(0) = 11");
        Edge.each(words + ": the first of twelve", twelve + "row(0, 0, 16); row(0, 11, 0); ", "odd(0) = 0");
        Edge.each("10: twelve by twelve: NONE", twelve.toString(), "odd(0) = NONE");
    }

    private static void oddNone() {
        for (int kind = 0; kind < 4; kind++) {
            Edge.each("10: NONE", Edge.script("table(%d, 0)", kind) + Edge.table(1, kind, "0")
                + Edge.table(2, kind, "0 0 | 0 0") + Edge.table(3, kind, "0 0 0 | 0 0 0 | 0 0 0"),
                "odd(0) = NONE; odd(1) = NONE; odd(2) = NONE; odd(3) = NONE");
        }
        Edge.refused("10: UNKNOWN", Edge.table(0, BITS, "1 | -"), "odd(1) = UNKNOWN; odd(-1) = UNKNOWN; odd(16) = UNKNOWN; "
            + "odd(MAX) = UNKNOWN; odd(MIN) = UNKNOWN");
        Edge.refused("10: what it answers changes nothing", Edge.table(0, BITS, "1 | -"), "odd(0) = 0");
    }

    private static void copyPieces() {
        String words = "11: n CELLS of the ROW at place i, from a on, come to the ROW at place j of another TABLE, from b on";
        String sixteen = "1 2 3 4 5 6 7 8 9 10 11 12 13 14 15 16";
        String two = Edge.table(0, NUMBERS, sixteen) + "table(1, 12); row(1, 11, 16); ";
        Edge.run(words + ", all", two + "copy(0, 0, 0, 1, 11, 0, 16) = 1; get(1, 11, 0) = 1; get(1, 11, 15) = 16; "
            + "get(1, 11, 7) = 8; same(0, 0, 1, 11) = 0; put(0, 0, 0, 99); get(1, 11, 0) = 1");
        Edge.run(words + ", the last one", two + "copy(0, 0, 15, 1, 11, 0, 1) = 1; get(1, 11, 0) = 16; get(1, 11, 1) = 0");
        Edge.run(words + ", to the last one", two + "copy(0, 0, 0, 1, 11, 15, 1) = 1; get(1, 11, 15) = 1; get(1, 11, 14) = 0");
        Edge.run(words + ", some", two + "copy(0, 0, 3, 1, 11, 5, 2) = 1; get(1, 11, 4) = 0; get(1, 11, 5) = 4; "
            + "get(1, 11, 6) = 5; get(1, 11, 7) = 0; get(0, 0, 3) = 4; count(3) = 0");
        Edge.refused(words + ", none", two, "copy(0, 0, 0, 1, 11, 0, 0) = 1; copy(0, 0, 16, 1, 11, 16, 0) = 1; "
            + "copy(0, 0, 16, 1, 11, 0, 0) = 1; copy(0, 0, 0, 0, 0, 0, 16) = 1");
        Edge.refused(words + ", of none", Edge.table(0, NUMBERS, ". | . | 1"), "copy(0, 0, 0, 0, 1, 0, 0) = 1; "
            + "copy(0, 0, 0, 0, 0, 0, 0) = 1; copy(0, 0, 0, 0, 2, 1, 0) = 1");
        for (int kind = 0; kind < 4; kind++) {
            Edge.run(words + ", of each KIND", Edge.table(0, kind, "0 0 0") + Edge.table(1, kind, "1 1 1")
                + "copy(1, 0, 0, 0, 0, 1, 2) = 1; alike(0, 1) = 0; "
                + "copy(1, 0, 2, 0, 0, 0, 1) = 1; alike(0, 1) = 1; same(0, 0, 1, 0) = 0");
        }
        Edge.run(words + ", where it stands in several places", Edge.table(0, NUMBERS, "1 2 | 0 0 | -") + "share(0, 2, 0, 1); "
            + "copy(0, 0, 0, 0, 1, 0, 2) = 1; " + Edge.holds(0, NUMBERS, "1 2 | 1 2 | 1 2"));
    }

    private static void copyOfOneRow() {
        String words = "11: (of one ROW, as if taken away first)";
        String one = Edge.table(0, NUMBERS, "1 2 3 4 5") + "table(1, 1); share(1, 0, 0, 0); ";
        Edge.run(words, one + "copy(0, 0, 0, 0, 0, 1, 4) = 1; " + Edge.holds(0, NUMBERS, "1 1 2 3 4"));
        Edge.run(words, one + "copy(0, 0, 1, 0, 0, 0, 4) = 1; " + Edge.holds(0, NUMBERS, "2 3 4 5 5"));
        Edge.run(words, one + "copy(0, 0, 0, 0, 0, 2, 3) = 1; " + Edge.holds(0, NUMBERS, "1 2 1 2 3"));
        Edge.run(words, one + "copy(0, 0, 2, 0, 0, 0, 3) = 1; " + Edge.holds(0, NUMBERS, "3 4 5 4 5"));
        Edge.run(words + ", at two places", one + "copy(0, 0, 0, 1, 0, 1, 4) = 1; " + Edge.holds(0, NUMBERS, "1 1 2 3 4")
            + Edge.holds(1, NUMBERS, "1 1 2 3 4"));
        Edge.run(words + ", at two places", one + "copy(1, 0, 1, 0, 0, 0, 4) = 1; " + Edge.holds(0, NUMBERS, "2 3 4 5 5")
            + Edge.holds(1, NUMBERS, "2 3 4 5 5"));
        Edge.run(words + ", of REALS", Edge.table(0, REALS, "1500 2500 3500") + "copy(0, 0, 0, 0, 0, 1, 2) = 1; "
            + "real(0, 0, 0) = 1.5; real(0, 0, 1) = 1.5; real(0, 0, 2) = 2.5");
        Edge.run(words + ", of BITS", Edge.table(0, BITS, "1 0 1 0") + "copy(0, 0, 0, 0, 0, 1, 3) = 1; "
            + Edge.holds(0, BITS, "1 1 0 1"));
        Edge.run(words + ", of LINKS", Edge.table(0, LINKS, "0 NONE NONE") + "copy(0, 0, 0, 0, 0, 1, 2) = 1; " + Edge.holds(0,
            LINKS, "0 0 NONE"));
    }

    private static void copyRefused() {
        String story = Edge.table(0, NUMBERS, "1 2 | -") + Edge.table(1, BITS, "1 0 | -") + "table(1, 0); ";
        Edge.refused("11: UNKNOWN", story, "copy(3, 0, 0, 0, 0, 0, 1) = UNKNOWN; copy(0, 0, 0, 3, 0, 0, 1) = UNKNOWN; "
            + "copy(-1, 9, 9, 0, 9, 9, 9) = UNKNOWN; copy(0, 9, 9, -1, 9, 9, 9) = UNKNOWN; copy(3, 1, 0, 1, 0, 0, -1) = UNKNOWN");
        Edge.refused("11: INDEX (i)", story, noPlace("copy(0, %d, 0, 0, 0, 0, 1)", 2) + noPlace("copy(0, %d, 0, 0, 1, 0, 1)",
            2) + noPlace("copy(0, %d, 0, 1, 0, 0, 1)", 2) + noPlace("copy(2, %d, 0, 0, 0, 0, 0)", 0));
        Edge.refused("11: INDEX (j)", story, noPlace("copy(0, 0, 0, 0, %d, 0, 1)", 2) + noPlace("copy(0, 1, 0, 0, %d, 0, 1)",
            2) + noPlace("copy(0, 0, 0, 1, %d, 0, 1)", 2) + noPlace("copy(0, 0, 0, 2, %d, 0, 0)", 0));
        Edge.refused("11: NULL (either)", story, "copy(0, 1, 0, 0, 0, 0, 1) = NULL; copy(0, 0, 0, 0, 1, 0, 1) = NULL; "
            + "copy(0, 1, 0, 0, 1, 0, 1) = NULL; copy(0, 1, 0, 0, 0, 0, 0) = NULL; "
            + "copy(0, 0, 0, 1, 1, 0, 1) = NULL; copy(0, 1, 0, 1, 0, 0, 1) = NULL; copy(0, 1, 9, 0, 0, 9, -1) = NULL");
        Edge.refused("11: STORE", story, "copy(0, 0, 0, 1, 0, 0, 1) = STORE; copy(1, 0, 0, 0, 0, 0, 2) = STORE; "
            + "copy(0, 0, 0, 1, 0, 0, 0) = STORE; copy(0, 0, 9, 1, 0, 9, -1) = STORE");
        for (int kind = 0; kind < 4; kind++) {
            for (int other = kind + 1; other < 4; other++) {
                Edge.refused("11: STORE, of all unlike KINDS", Edge.table(0, kind, "0") + Edge.table(1, other, "0"),
                    "copy(0, 0, 0, 1, 0, 0, 1) = STORE; copy(1, 0, 0, 0, 0, 0, 1) = STORE");
            }
        }
    }

    /** Rows of three and of five cells: every a, b, n from -2 to 7, and what would wrap if added. */
    private static void copyBeyond() {
        String words = "11: INDEX (a, b, n below 0, or beyond either)";
        String story = Edge.table(0, NUMBERS, "1 2 3 | 4 5 6 7 8");
        StringBuilder wrong = new StringBuilder();
        StringBuilder right = new StringBuilder();
        for (int a = -2; a < 8; a++) {
            for (int b = -2; b < 8; b++) {
                for (int n = -2; n < 8; n++) {
                    boolean fits = a >= 0 && b >= 0 && n >= 0 && a + n <= 3 && b + n <= 5;
                    (fits ? right : wrong).append(Edge.script("copy(0, 0, %d, 0, 1, %d, %d) = %s", a, b, n,
                        fits ? "1" : "INDEX"));
                    boolean back = a >= 0 && b >= 0 && n >= 0 && a + n <= 5 && b + n <= 3;
                    (back ? right : wrong).append(Edge.script("copy(0, 1, %d, 0, 0, %d, %d) = %s", a, b, n,
                        back ? "1" : "INDEX"));
                }
            }
        }
        Edge.each(words, story, right.toString());
        Edge.refused(words, story, wrong.toString());
        String[] far = {"MAX", "MIN", "2147483646", "-2147483647", "16", "17"};
        StringBuilder wild = new StringBuilder();
        for (String v : far) {
            wild.append("copy(0, 0, " + v + ", 0, 1, 0, 1) = INDEX; copy(0, 0, 0, 0, 1, " + v + ", 1) = INDEX; "
                + "copy(0, 0, 0, 0, 1, 0, " + v + ") = INDEX; ");
            wild.append("copy(0, 0, " + v + ", 0, 1, 0, 0) = INDEX; copy(0, 0, 0, 0, 1, " + v + ", 0) = INDEX; "
                + "copy(0, 0, 1, 0, 1, 1, " + v + ") = INDEX; ");
            for (String u : far) {
                wild.append("copy(0, 0, " + v + ", 0, 1, " + v + ", " + u + ") = INDEX; copy(0, 0, " + v + ", 0, 1, 0, " + u
                    + ") = INDEX; copy(0, 0, 0, 0, 1, " + v + ", " + u + ") = INDEX; ");
            }
        }
        Edge.refused(words + ", far beyond", story, wild.toString());
    }
}
