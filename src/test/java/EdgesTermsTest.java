/** The sentences of the document's 'Terms' and of promise 1 that name a bound, a code, a cause or an order. */
public final class EdgesTermsTest {
    private static final int BITS = Edge.BITS, NUMBERS = Edge.NUMBERS, LINKS = Edge.LINKS;
    /** Every call that names a table, with %d where it does. */
    private static final String[] NAMING = {"row(%d, 0, 1)", "share(%d, 0, 0, 0)", "share(0, 0, %d, 0)", "fall(%d, 0)",
        "put(%d, 0, 0, 0)", "get(%d, 0, 0)", "told(%d, 0, 0)", "told(%d, 0, 1)", "told(%d, 0, 2)", "odd(%d)",
        "copy(%d, 0, 0, 0, 0, 0, 0)", "copy(0, 0, 0, %d, 0, 0, 0)", "turned(%d)", "product(%d, 0)", "product(0, %d)",
        "distances(%d)", "pack(%d)", "alike(%d, 0)", "alike(0, %d)", "same(%d, 0, 0, 0)", "same(0, 0, %d, 0)",
        "total(%d)", "deep(%d)"};

    public static void main(String[] args) {
        tablesAsTheyCome();
        aTableThatThereIsNot();
        noTables();
        kinds();
        places();
        cells();
        oneRowAtSeveralPlaces();
        cellsAtFirst();
        firstCodeThatFits();
        codesAheadOfCauses();
        firstCauseThatFits();
        lessTheCause();
        placeAheadOfRow();
        even();
        wideWithoutAPlace();
        atMost512Calls();
        Due.end();
    }

    private static void tablesAsTheyCome() {
        StringBuilder script = new StringBuilder();
        for (int t = 0; t < 16; t++) {
            script.append(Edge.script("told(%d, 0, 0) = UNKNOWN", t));
            script.append(Edge.script("table(%d, 0) = %d", t % 4, t));
            script.append(Edge.script("told(%d, 0, 0) = %d", t, t % 4));
            script.append(Edge.script("count(0) = %d", t + 1));
        }
        script.append("told(16, 0, 0) = UNKNOWN; table(0, 0) = ROOM; told(16, 0, 0) = UNKNOWN; told(15, 0, 0) = 3; "
            + "count(0) = 16");
        Edge.run("Terms: TABLES 0 to 15, as they come", script.toString());
        Edge.run("Terms: as they come, by whatever call", Edge.table(0, BITS, "1") + "turned(0) = 1; product(0, 1) = 2; "
            + "table(3, 0) = 3; distances(0) = 4; table(9, 0) = OUTSIDE; turned(4) = 5; count(0) = 6; "
            + "told(0, 0, 0) = 0; told(1, 0, 0) = 0; told(2, 0, 0) = 0; told(3, 0, 0) = 3; told(4, 0, 0) = 1; told(5, 0, 0) = 1");
    }

    private static void aTableThatThereIsNot() {
        String one = Edge.table(0, BITS, "1");
        String full = one + Edge.empty(14) + Edge.table(15, BITS, "1");
        for (String form : NAMING) {
            for (int t : new int[] {-1, 1, 2, 15, 16, 17, Edge.MAX, Edge.MIN, -1000009, -1000001}) {
                Edge.refused("Terms: UNKNOWN (a TABLE that there is not), of one", one, Edge.script(form + " = UNKNOWN", t));
            }
            for (int t : new int[] {-1, 16, 17, Edge.MAX, Edge.MIN}) {
                Edge.refused("Terms: UNKNOWN (a TABLE that there is not), of sixteen", full, Edge.script(form + " = UNKNOWN", t));
            }
        }
        String known = "row(15, 0, 1) = 1; share(15, 0, 0, 0) = 1; share(0, 0, 15, 0) = 1; fall(15, 0) = 1; "
            + "put(15, 0, 0, 0) = 1; "
            + "get(15, 0, 0) = 1; told(15, 0, 0) = 0; told(15, 0, 1) = 1; told(15, 0, 2) = 1; odd(15) = NONE; "
            + "copy(15, 0, 0, 0, 0, 0, 0) = 1; copy(0, 0, 0, 15, 0, 0, 0) = 1; turned(15) = ROOM; product(15, 0) = ROOM; "
            + "product(0, 15) = ROOM; distances(15) = ROOM; pack(15) = 1; alike(15, 0) = 1; alike(0, 15) = 1; "
            + "same(15, 0, 0, 0) = 0; same(0, 0, 15, 0) = 0; total(15) = 1; deep(15) = 0";
        Edge.each("Terms: TABLE 15 there is", full, known);
        Edge.each("Terms: TABLE 0 there is", one, known.replace("15", "0").replace("ROOM",
            "1").replace("same(0, 0, 0, 0) = 0", "same(0, 0, 0, 0) = 1"));
    }

    private static void noTables() {
        Edge.run("1: No TABLES", "count(0) = 0; count(1) = 0; count(2) = 0; count(3) = 0; entered() = 0; word(0) = NONE; "
            + "clear() = 0");
        for (String form : NAMING) {
            Edge.refused("1: No TABLES", "", Edge.script(form + " = UNKNOWN", 0));
        }
        Edge.refused("1: No TABLES", "", "real(0, 0, 0) = 0.0; clear() = 0; word(0) = NONE; entered() = 0; count(4) = OUTSIDE");
        Edge.each("1: the first is TABLE 0", "", "table(0, 0) = 0; table(3, 12) = 0");
    }

    private static void kinds() {
        for (int kind = 0; kind < 4; kind++) {
            Edge.run("Terms: a KIND, 0 to 3", Edge.script("table(%d, 1) = 0", kind) + Edge.script("told(0, 0, 0) = %d", kind));
        }
        Edge.refused("Terms: another KIND is OUTSIDE", "", "table(-1, 1) = OUTSIDE; table(4, 1) = OUTSIDE; "
            + "table(5, 0) = OUTSIDE; "
            + "table(MAX, 1) = OUTSIDE; table(MIN, 1) = OUTSIDE");
        Edge.run("Terms: 0 BITS", "table(0, 1); row(0, 0, 1); put(0, 0, 0, 5); get(0, 0, 0) = 1; real(0, 0, 0) = 0.0");
        Edge.run("Terms: 1 NUMBERS (32 bits)", "table(1, 1); row(0, 0, 2); put(0, 0, 0, MAX); put(0, 0, 1, MIN); "
            + "get(0, 0, 0) = MAX; get(0, 0, 1) = MIN; real(0, 0, 0) = 0.0");
        Edge.run("Terms: 2 REALS", "table(2, 1); row(0, 0, 1); put(0, 0, 0, 1500); get(0, 0, 0) = 1; real(0, 0, 0) = 1.5");
        Edge.run("Terms: 3 LINKS", "table(3, 1); row(0, 0, 1); get(0, 0, 0) = NONE; put(0, 0, 0, 0); get(0, 0, 0) = 0; "
            + "put(0, 0, 0, 1) = UNKNOWN");
    }

    private static void places() {
        for (int n = 0; n <= 12; n++) {
            StringBuilder script = new StringBuilder(Edge.script("table(1, %d) = 0", n) + Edge.script("told(0, 0, 1) = %d", n));
            script.append(Edge.script("count(2) = %d", n));
            for (int i = 0; i < n; i++) {
                script.append(Edge.script("row(0, %d, 1) = 1", i));
            }
            script.append(Edge.script("row(0, %d, 1) = INDEX", n)).append("row(0, -1, 1) = INDEX; ");
            script.append(Edge.script("count(1) = %d", n)).append("count(2) = 0");
            Edge.run("Terms: 0 to 12 places", script.toString());
        }
        Edge.refused("Terms: 0 to 12 places", "", "table(1, 13) = OUTSIDE; table(1, 14) = OUTSIDE; table(1, MAX) = OUTSIDE; "
            + "table(1, -1) = SIZE; table(1, MIN) = SIZE");
    }

    private static void cells() {
        for (int kind = 0; kind < 4; kind++) {
            for (int n = 0; n <= 16; n++) {
                StringBuilder script = new StringBuilder(Edge.script("table(%d, 1)", kind) + Edge.script("row(0, 0, %d) = 1", n));
                script.append(Edge.script("told(0, 0, 2) = %d", n));
                for (int j = 0; j < n; j++) {
                    script.append(Edge.script("put(0, 0, %d, 0) = 1", j)).append(Edge.script("get(0, 0, %d) = 0", j));
                }
                script.append(Edge.script("put(0, 0, %d, 0) = INDEX", n)).append(Edge.script("get(0, 0, %d) = INDEX", n));
                script.append("put(0, 0, -1, 0) = INDEX; get(0, 0, -1) = INDEX");
                Edge.run("Terms: a ROW (0 to 16 CELLS)", script.toString());
            }
        }
        Edge.refused("Terms: a ROW (0 to 16 CELLS)", Edge.table(0, NUMBERS, "5 | -"), "row(0, 0, 17) = OUTSIDE; "
            + "row(0, 1, 17) = OUTSIDE; "
            + "row(0, 0, 18) = OUTSIDE; row(0, 0, MAX) = OUTSIDE; row(0, 0, -1) = SIZE; row(0, 1, MIN) = SIZE");
    }

    /** All of one kind, so that one row can stand at each of the 192 places. */
    private static void oneRowAtSeveralPlaces() {
        StringBuilder script = new StringBuilder("table(1, 12); ".repeat(16) + "row(15, 11, 16); ");
        for (int p = 0; p < 191; p++) {
            script.append(Edge.script("share(%d, %d, 15, 11) = 1", p / 12, p % 12));
        }
        script.append("count(1) = 1; count(2) = 0; put(0, 0, 15, 7); ");
        for (int p = 0; p < 192; p++) {
            script.append(Edge.script("get(%d, %d, 15) = 7", p / 12, p % 12));
        }
        Edge.run("Terms: A ROW may stand at several places, of several TABLES", script
            + "row(15, 11, 1) = 1; count(1) = 2; get(15, 10, 15) = 7; same(0, 0, 15, 10) = 1; same(0, 0, 15, 11) = 0");
        Edge.run("Terms: A ROW stands on, while one place is left", "table(1, 2); row(0, 0, 1); put(0, 0, 0, 3); "
            + "share(0, 1, 0, 0); "
            + "fall(0, 0) = 1; get(0, 1, 0) = 3; count(1) = 1; share(0, 0, 0, 1); fall(0, 1) = 1; get(0, 0, 0) = 3; "
                + "fall(0, 0) = 1; count(1) = 0");
    }

    private static void cellsAtFirst() {
        for (int kind = 0; kind < 4; kind++) {
            // The row that was there before is used up: nothing of it may be seen in the new one.
            String used = Edge.script("table(%d, 2)", kind) + "row(0, 0, 16); put(0, 0, 0, 0); put(0, 0, 15, 0); "
                + "put(0, 0, 7, 0); ";
            String other = kind == LINKS ? "" : "put(0, 0, 0, 5000); put(0, 0, 15, -5000); put(0, 0, 7, 9999); ";
            StringBuilder script = new StringBuilder(used + other + "fall(0, 0); row(0, 1, 16); ");
            for (int j = 0; j < 16; j++) {
                script.append(Edge.script("get(0, 1, %d) = %s", j, kind == LINKS ? "NONE" : "0"));
                script.append(Edge.script("real(0, 1, %d) = 0.0", j));
            }
            Edge.run("Terms: CELLS are 0 at first, of LINKS none", script.toString());
        }
        Edge.run("Terms: CELLS are 0 at first, made of a ROW of LINKS", Edge.table(0, LINKS, "0 NONE 0") + "fall(0, 0); "
            + "table(1, 1); row(1, 0, 3); get(1, 0, 0) = 0; get(1, 0, 1) = 0; get(1, 0, 2) = 0; row(0, 0, 3); "
                + "get(0, 0, 0) = NONE");
    }

    private static void firstCodeThatFits() {
        String odd = Edge.table(0, LINKS, "0 0 | -") + Edge.table(1, BITS, "1");
        Edge.refused("Terms: UNKNOWN ahead of OUTSIDE", odd, "row(2, 0, 17) = UNKNOWN; told(2, 0, 3) = UNKNOWN; "
            + "told(-1, 0, -1) = UNKNOWN");
        Edge.refused("Terms: UNKNOWN ahead of STATE", odd, "product(2, 0) = UNKNOWN; product(0, 2) = UNKNOWN; "
            + "product(-1, 0) = UNKNOWN");
        String full = odd + Edge.empty(14);
        Edge.refused("Terms: UNKNOWN ahead of ROOM", full, "turned(16) = UNKNOWN; turned(-1) = UNKNOWN; "
            + "product(1, 16) = UNKNOWN; "
            + "product(16, 1) = UNKNOWN; distances(16) = UNKNOWN; distances(-1) = UNKNOWN");
        Edge.refused("Terms: OUTSIDE ahead of ROOM", full, "table(4, 0) = OUTSIDE; table(-1, 0) = OUTSIDE; "
            + "table(0, 13) = OUTSIDE");
        Edge.refused("Terms: STATE ahead of ROOM", full, "turned(0) = STATE; product(0, 0) = STATE; product(0, 1) = STATE; "
            + "distances(0) = STATE");
        Edge.refused("Terms: ROOM", full, "table(0, 0) = ROOM; table(3, 12) = ROOM; turned(1) = ROOM; product(1, 1) = ROOM; "
            + "distances(1) = ROOM");
    }

    private static void codesAheadOfCauses() {
        String two = Edge.table(0, NUMBERS, "1 | -") + Edge.table(1, LINKS, "0 | -");
        Edge.refused("Terms: UNKNOWN ahead of each CAUSE", two, "row(2, 9, -1) = UNKNOWN; share(2, 9, 0, 9) = UNKNOWN; "
            + "share(0, 9, 2, 9) = UNKNOWN; share(0, 0, 2, 1) = UNKNOWN; fall(2, 9) = UNKNOWN; put(2, 9, 9, 0) = UNKNOWN; "
            + "put(1, 9, 0, 2) = UNKNOWN; put(1, 1, 0, 2) = UNKNOWN; put(1, 0, 9, 2) = UNKNOWN; get(2, 9, 9) = UNKNOWN; "
            + "told(2, 9, 2) = UNKNOWN; copy(2, 9, 9, 0, 9, 9, -1) = UNKNOWN; copy(0, 1, 0, 2, 0, 0, 1) = UNKNOWN; "
            + "same(2, 9, 0, 9) = UNKNOWN; same(0, 9, 2, 9) = UNKNOWN");
        Edge.refused("Terms: OUTSIDE ahead of SIZE", two, "table(4, -1) = OUTSIDE; table(-1, -1) = OUTSIDE; "
            + "table(MIN, MIN) = OUTSIDE");
        Edge.refused("Terms: OUTSIDE ahead of INDEX", two, "row(0, 2, 17) = OUTSIDE; row(0, -1, 17) = OUTSIDE; "
            + "told(0, 2, 3) = OUTSIDE; told(0, -1, -1) = OUTSIDE");
        Edge.refused("Terms: OUTSIDE ahead of NULL", two, "told(0, 1, 3) = OUTSIDE");
        Edge.refused("Terms: STATE ahead of NULL", two, "pack(0) = STATE; pack(1) = STATE");
        Edge.refused("Terms: ROOM ahead of SIZE", two + Edge.empty(14), "table(0, -1) = ROOM; table(3, MIN) = ROOM");
    }

    private static void firstCauseThatFits() {
        String two = Edge.table(0, NUMBERS, "1 | -") + Edge.table(1, BITS, "1 | -");
        Edge.refused("Terms: NULL ahead of INDEX (a CELL)", two, "put(0, 1, 1, 0) = NULL; put(0, 1, -1, 0) = NULL; "
            + "get(0, 1, 1) = NULL; "
            + "get(0, 1, -1) = NULL; copy(0, 1, 2, 0, 0, 0, 1) = NULL; copy(0, 0, 0, 0, 1, 2, 1) = NULL; "
                + "copy(0, 0, 0, 0, 1, 0, -1) = NULL");
        Edge.refused("Terms: NULL ahead of STORE", two, "share(0, 0, 1, 1) = NULL; copy(0, 1, 0, 1, 0, 0, 1) = NULL; "
            + "copy(0, 0, 0, 1, 1, 0, 1) = NULL; copy(0, 1, 0, 1, 1, 0, 1) = NULL");
        Edge.refused("Terms: INDEX (a place) ahead of STORE", two, "share(0, 2, 1, 0) = INDEX; share(0, 0, 1, 2) = INDEX; "
            + "copy(0, 2, 0, 1, 0, 0, 1) = INDEX; copy(0, 0, 0, 1, 2, 0, 1) = INDEX");
        Edge.refused("11: STORE; INDEX (a, b, n), in this order", two, "copy(0, 0, 1, 1, 0, 0, 1) = STORE; "
            + "copy(0, 0, 0, 1, 0, 1, 1) = STORE; "
            + "copy(0, 0, 0, 1, 0, 0, -1) = STORE; copy(0, 0, -1, 1, 0, -1, 2) = STORE");
        Edge.refused("3: SIZE ahead of INDEX", two, "row(0, 2, -1) = SIZE; row(0, -1, -1) = SIZE; row(0, MIN, MIN) = SIZE");
    }

    private static void lessTheCause() {
        String story = Edge.table(0, NUMBERS, "1 | -") + Edge.table(1, BITS, "1") + Edge.table(2, LINKS, "2");
        Edge.refused("Terms: it answers -1000010 less the CAUSE", story, "get(0, 1, 0) = -1000011; get(0, 2, 0) = -1000012; "
            + "share(0, 0, 1, 0) = -1000013; row(0, 0, -1) = -1000014; total(2) = -1000015; deep(2) = -1000015");
        Edge.refused("Terms: the codes", story + Edge.empty(13), "get(16, 0, 0) = -1000001; count(4) = -1000002; "
            + "turned(0) = -1000003; table(0, 0) = -1000004");
        String many = Edge.table(0, LINKS, "") + Edge.table(1, LINKS, Edge.row("0", 16)) + "table(3, 12); row(2, 0, 16); "
            + "put(2, 0, 0, 1); copy(2, 0, 0, 2, 0, 1, 1); copy(2, 0, 0, 2, 0, 2, 2); copy(2, 0, 0, 2, 0, 4, 4); "
                + "copy(2, 0, 0, 2, 0, 8, 8); "
            + "share(2, 1, 2, 0); share(2, 2, 2, 0); share(2, 3, 2, 0); ";
        Edge.refused("Terms: 6 SPENT", many + "share(2, 4, 2, 0); ", "total(2) = -1000016");
    }

    private static void placeAheadOfRow() {
        String words = "Terms: A place that there is not is INDEX ahead of NULL; then its ROW is asked";
        String three = Edge.table(0, NUMBERS, "1 | - | 2") + "table(1, 0); ";
        Edge.refused(words, three, "put(0, 3, 0, 0) = INDEX; put(0, -1, 0, 0) = INDEX; put(0, 1, 0, 0) = NULL; "
            + "get(0, 3, 9) = INDEX; "
            + "get(0, -1, -1) = INDEX; get(0, 1, 0) = NULL; told(0, 3, 2) = INDEX; told(0, -1, 2) = INDEX; told(0, 1, 2) = NULL; "
            + "get(1, 0, 0) = INDEX; put(1, 0, 0, 0) = INDEX; told(1, 0, 2) = INDEX; fall(1, 0) = INDEX; row(1, 0, 1) = INDEX");
        Edge.refused(words + ", of two", three, "share(0, 3, 0, 1) = INDEX; share(0, 1, 0, 3) = INDEX; share(0, 0, 0, 1) = NULL; "
            + "copy(0, 1, 0, 0, 3, 0, 1) = INDEX; copy(0, 3, 0, 0, 1, 0, 1) = INDEX; copy(0, 1, 0, 0, 1, 0, 1) = NULL; "
            + "share(0, 0, 1, 0) = INDEX; share(1, 0, 0, 0) = INDEX; copy(0, 0, 0, 1, 0, 0, 0) = INDEX; "
                + "copy(1, 0, 0, 0, 0, 0, 0) = INDEX");
        // Where the last place is the greatest that can be, one more is still just a place that there is not.
        Edge.refused(words + ", of twelve", "table(1, 12); row(0, 11, 1); ", "get(0, 12, 0) = INDEX; put(0, 12, 0, 0) = INDEX; "
            + "told(0, 12, 2) = INDEX; fall(0, 12) = INDEX; row(0, 12, 1) = INDEX; share(0, 12, 0, 11) = INDEX; "
                + "share(0, 0, 0, 12) = INDEX; "
            + "same(0, 12, 0, 11) = INDEX; same(0, 11, 0, 12) = INDEX; get(0, MAX, 0) = INDEX; get(0, MIN, 0) = INDEX");
        Edge.each(words + ", of twelve", "table(1, 12); row(0, 11, 1); ", "get(0, 11, 0) = 0; told(0, 11, 2) = 1; "
            + "fall(0, 11) = 1; get(0, 10, 0) = NULL");
    }

    private static void even() {
        String words = "Terms: EVEN, if none of its ROWS is FALLEN, and all have one length";
        for (String rows : new String[] {"-", "- | -", "- | 1 1", "1 1 | -", "1 1 | - | 1 1", "1 1 | 1", "1 | 1 1", "1 1 | 1 1 | 1",
            "1 1 1 | 1 1 | 1 1", ". | 1", "1 | .", ". | -", "- | ."}) {
            Edge.refused(words, Edge.table(0, NUMBERS, rows) + Edge.table(1, NUMBERS, "1 1"), "turned(0) = STATE; "
                + "product(0, 0) = STATE; "
                + "product(0, 1) = STATE; product(1, 0) = STATE");
        }
        for (String rows : new String[] {"", ".", ". | .", "1", "1 1 | 1 1", "1 1 1 | 1 1 1", Edge.rows("1", 12)}) {
            Edge.each(words, Edge.table(0, NUMBERS, rows), "turned(0) = 1");
        }
    }

    private static void wideWithoutAPlace() {
        String words = "Terms: its HIGH is how many places it has, its WIDE that length (0 without a place)";
        String tables = "table(1, 0); " + Edge.table(1, NUMBERS, ". | .") + Edge.table(2, NUMBERS, "1 2 3");
        Edge.each(words, tables, "product(0, 0) = 3; product(1, 0) = 3; product(0, 1) = STATE; product(1, 1) = STATE; "
            + "product(0, 2) = STATE; product(2, 0) = STATE; turned(0) = 3; turned(1) = 3; turned(2) = 3");
        Edge.run(words, tables + "turned(2) = 3; product(3, 2) = 4; product(2, 3) = 5; told(4, 0, 1) = 3; told(4, 0, 2) = 3; "
            + "told(5, 0, 1) = 1; told(5, 0, 2) = 1");
    }

    private static void atMost512Calls() {
        String words = "What it is: an object is used for at most 512 calls: the last of them, too";
        Edge.run(words, "table(1, 12); " + "row(0, 0, 16); ".repeat(509) + "put(0, 0, 15, 5) = 1; get(0, 0, 15) = 5");
        Edge.run(words, "table(0, -1); ".repeat(511) + "count(3) = 511");
        Edge.run(words, "table(0, 1); clear(); ".repeat(255) + "table(0, 1) = 0; clear() = 1");
        Edge.run(words, Edge.table(0, LINKS, "0") + "total(0); ".repeat(508) + "total(0) = RING");
        Edge.run(words, Edge.table(0, NUMBERS, "1") + "turned(0); ".repeat(508) + "turned(0) = ROOM");
        Edge.run(words, "table(2, 2); row(0, 0, 1); " + "share(0, 1, 0, 0); fall(0, 0); share(0, 0, 0, 1); "
            + "fall(0, 1); ".repeat(127) + "count(1) = 1; count(2) = 1");
    }
}
