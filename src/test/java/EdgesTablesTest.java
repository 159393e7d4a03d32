/** The sentences of promises 12 to 18 (whole tables) that name a boundary case, each with a test of its own. */
public final class EdgesTablesTest {
    private static final int BITS = Edge.BITS, NUMBERS = Edge.NUMBERS, REALS = Edge.REALS, LINKS = Edge.LINKS;
    private static final String SIXTEEN = "1 2 3 4 5 6 7 8 9 10 11 12 13 14 15 16";

    public static void main(String[] args) {
        turnedCells();
        turnedNewRows();
        turnedWithoutPlaces();
        turnedState();
        turnedRoom();
        productBits();
        productNumbers();
        productReals();
        productEndless();
        productNoNumber();
        productSizes();
        productNew();
        productState();
        productRoom();
        distancesSteps();
        distancesNoWay();
        distancesSizes();
        distancesRefused();
        packWords();
        packOrder();
        packRefused();
        wordNone();
        wordLast();
        alikeKindAndPlaces();
        alikeFallen();
        alikeCells();
        alikeReals();
        alikeLinks();
        sameRow();
        sameFallen();
        sameRefused();
        Due.end();
    }

    // Promise 12

    private static void turnedCells() {
        String words = "12: place x, CELL y is place y, CELL x";
        Edge.run(words, Edge.table(0, NUMBERS, "1 2 3 | 4 5 6") + "turned(0) = 1; "
            + Edge.holds(1, NUMBERS, "1 4 | 2 5 | 3 6") + Edge.holds(0, NUMBERS, "1 2 3 | 4 5 6"));
        Edge.run(words + ", one", Edge.table(0, NUMBERS, "7") + "turned(0) = 1; " + Edge.holds(1, NUMBERS, "7"));
        Edge.run(words + ", BITS", Edge.table(0, BITS, "0 1 1") + "turned(0) = 1; " + Edge.holds(1, BITS, "0 | 1 | 1"));
        Edge.run(words + ", REALS", Edge.table(0, REALS, "1500 | -7") + "turned(0) = 1; told(1, 0, 0) = 2; told(1, 0, 1) = 1; "
            + "told(1, 0, 2) = 2; real(1, 0, 0) = 1.5; real(1, 0, 1) = -0.007");
        Edge.run(words + ", LINKS", "table(3, 1); row(0, 0, 2); put(0, 0, 1, 0); turned(0) = 1; "
            + Edge.holds(1, LINKS, "NONE | 0"));
        StringBuilder twelve = new StringBuilder("table(1, 12); ");
        for (int i = 0; i < 12; i++) {
            twelve.append(Edge.script("row(0, %d, 12)", i)).append(Edge.script("put(0, %d, 0, %d)", i, i
                + 1)).append(Edge.script("put(0, 0, %d, %d)", i, -i));
        }
        StringBuilder check = new StringBuilder();
        for (int i = 1; i < 12; i++) {
            check.append(Edge.script("get(1, 0, %d) = %d", i, i + 1)).append(Edge.script("get(1, %d, 0) = %d", i,
                -i)).append(Edge.script("told(1, %d, 2) = 12", i));
        }
        Edge.run(words + ", twelve by twelve", twelve + "turned(0) = 1; told(1, 0, 1) = 12; " + check);
    }

    private static void turnedNewRows() {
        String words = "12: A new TABLE, all with new ROWS";
        Edge.run(words, Edge.table(0, NUMBERS, "5") + "turned(0) = 1; same(0, 0, 1, 0) = 0; count(1) = 2; put(0, 0, 0, 6); "
            + "get(1, 0, 0) = 5; put(1, 0, 0, 7); get(0, 0, 0) = 6");
        Edge.run(words + ", of one ROW at all places", Edge.table(0, NUMBERS, "1 2 | -") + "share(0, 1, 0, 0); "
            + "turned(0) = 1; " + Edge.holds(1, NUMBERS, "1 1 | 2 2")
            + "same(1, 0, 1, 1) = 0; same(0, 0, 1, 0) = 0; count(1) = 3; count(2) = 0");
    }

    private static void turnedWithoutPlaces() {
        for (int kind = 0; kind < 4; kind++) {
            String made = Edge.script("told(1, 0, 0) = %d", kind) + "told(1, 0, 1) = 0; count(0) = 2; count(2) = 0; ";
            Edge.run("12: with no places: one without places", Edge.script("table(%d, 0)", kind) + "turned(0) = 1; " + made
                + "count(1) = 0");
            Edge.run("12: with WIDE 0: one without places", Edge.table(0, kind, ".") + "turned(0) = 1; " + made + "count(1) = 1");
            Edge.run("12: with WIDE 0: one without places", Edge.table(0, kind, Edge.rows(".", 12)) + "turned(0) = 1; " + made
                + "count(1) = 12");
        }
    }

    private static void turnedState() {
        Edge.refused("12: UNKNOWN", Edge.table(0, NUMBERS, "1"), "turned(1) = UNKNOWN; turned(-1) = UNKNOWN; "
            + "turned(16) = UNKNOWN; turned(MAX) = UNKNOWN; turned(MIN) = UNKNOWN");
        for (String rows : new String[] {"-", "1 | -", "- | 1", "1 2 | 1", "1 | 1 2", ". | 1", "1 | .",
            "1 | 1 | 1 | -", "1 2 | 1 2 | 1 2 3", "- | -", ". | -"}) {
            Edge.refused("12: STATE: it is not EVEN", Edge.table(0, NUMBERS, rows), "turned(0) = STATE");
        }
        for (int wide = 13; wide <= 16; wide++) {
            Edge.refused("12: STATE: WIDE is above 12", "table(1, 1); " + Edge.script("row(0, 0, %d)", wide),
                "turned(0) = STATE");
            Edge.refused("12: STATE: WIDE is above 12", "table(3, 2); " + Edge.script("row(0, 0, %d)", wide)
                + Edge.script("row(0, 1, %d)", wide), "turned(0) = STATE");
        }
        Edge.run("12: WIDE 12 is no STATE", "table(1, 1); row(0, 0, 12); put(0, 0, 11, 5); turned(0) = 1; told(1, 0, 1) = 12; "
            + "told(1, 11, 2) = 1; get(1, 11, 0) = 5; get(1, 0, 0) = 0");
    }

    private static void turnedRoom() {
        String one = Edge.table(0, NUMBERS, "1 2") + Edge.table(1, NUMBERS, "1 | -");
        Edge.each("12: room for the sixteenth", one + Edge.empty(13), "turned(0) = 15; turned(2) = 15");
        Edge.refused("12: ROOM", one + Edge.empty(14), "turned(0) = ROOM; turned(2) = ROOM");
        Edge.refused("12: STATE ahead of ROOM", one + Edge.empty(14), "turned(1) = STATE");
    }

    // Promise 13

    private static void productBits() {
        String words = "13: BITS: whether both are 1 for some k";
        for (int first = 0; first < 8; first++) {
            for (int second = 0; second < 8; second++) {
                String row = (first & 1) + " " + (first >> 1 & 1) + " " + (first >> 2);
                String column = (second & 1) + " | " + (second >> 1 & 1) + " | " + (second >> 2);
                Edge.run(words, Edge.table(0, BITS, row) + Edge.table(1, BITS, column) + "product(0, 1) = 2; " + Edge.holds(2,
                    BITS, (first & second) != 0 ? "1" : "0"));
            }
        }
        Edge.run(words + ", of twelve the last", Edge.table(0, BITS, Edge.row("0", 11) + " 1")
            + Edge.table(1, BITS, Edge.rows("0 0", 11) + " | 0 1") + "product(0, 1) = 2; " + Edge.holds(2, BITS, "0 1"));
        Edge.run(words + ", of twelve all", Edge.table(0, BITS, Edge.row("1", 12)) + Edge.table(1, BITS, Edge.rows("1", 12))
            + "product(0, 1) = 2; " + Edge.holds(2, BITS, "1") + "total(2) = 1");
    }

    private static void productNumbers() {
        String words = "13: NUMBERS: products added, wrapping";
        Edge.run(words, Edge.table(0, NUMBERS, "1 2 3 | 4 5 6") + Edge.table(1, NUMBERS, "1 0 2 | 0 1 0 | 5 0 -1")
            + "product(0, 1) = 2; " + Edge.holds(2, NUMBERS, "16 2 -1 | 34 5 2"));
        String[][] wraps = {{"MAX", "2", "-2"}, {"MAX", "MAX", "1"}, {"MIN", "-1", "MIN"}, {"MIN", "MIN", "0"}, {"65536",
            "65536", "0"}, {"65536", "32768", "MIN"}, {"MAX", "-1", "-2147483647"}, {"46341", "46341", "-2147479015"}};
        for (String[] w : wraps) {
            Edge.run(words + ", a product", Edge.table(0, NUMBERS, w[0]) + Edge.table(1, NUMBERS, w[1]) + "product(0, 1) = 2; "
                + "get(2, 0, 0) = " + w[2]);
        }
        Edge.run(words + ", a sum", Edge.table(0, NUMBERS, "1 1") + Edge.table(1, NUMBERS, "MAX | 1") + "product(0, 1) = 2; "
            + "get(2, 0, 0) = MIN");
        Edge.run(words + ", a sum below", Edge.table(0, NUMBERS, "1 1") + Edge.table(1, NUMBERS, "MIN | -1")
            + "product(0, 1) = 2; get(2, 0, 0) = MAX");
        Edge.run(words + ", not quite", Edge.table(0, NUMBERS, "1 1") + Edge.table(1, NUMBERS, "2147483646 | 1")
            + "product(0, 1) = 2; get(2, 0, 0) = MAX");
    }

    private static void productReals() {
        String words = "13: REALS: added from 0.0 on, over all k from 0 on";
        Edge.run(words, Edge.table(0, REALS, "100 200 300") + Edge.table(1, REALS, "1000 | 1000 | 1000") + "product(0, 1) = 2; "
            + "real(2, 0, 0) = " + (0.0 + 0.1 * 1.0 + 0.2 * 1.0 + 0.3 * 1.0));
        Edge.run(words, Edge.table(0, REALS, "300 200 100") + Edge.table(1, REALS, "1000 | 1000 | 1000") + "product(0, 1) = 2; "
            + "real(2, 0, 0) = " + (0.0 + 0.3 * 1.0 + 0.2 * 1.0 + 0.1 * 1.0));
        Edge.run(words + ": 0.0 and not -0.0", Edge.table(0, REALS, "-1 0") + Edge.table(1, REALS, "0 | -5")
            + "product(0, 1) = 2; real(2, 0, 0) = 0.0; get(2, 0, 0) = 0");
        Edge.run(words + ", -0.001 of 0", Edge.table(0, REALS, "-1") + Edge.table(1, REALS, "0") + "product(0, 1) = 2; "
            + "real(2, 0, 0) = 0.0; alike(1, 2) = 1");
        Edge.run(words + ", several", Edge.table(0, REALS, "1500 2 | 0 -1000") + Edge.table(1, REALS, "2000 7 | -4000 500")
            + "product(0, 1) = 2; real(2, 0, 0) = " + (0.0 + 1.5 * 2.0 + 0.002 * -4.0)
            + "; real(2, 0, 1) = " + (0.0 + 1.5 * 0.007 + 0.002 * 0.5) + "; real(2, 1, 0) = 4.0; real(2, 1, 1) = -0.5");
    }

    /** Table 6 is endless, table 8 endless below 0; table 9 has these two cells, numbers or copied from the table named. */
    private static String endless(String... cells) {
        StringBuilder script = new StringBuilder(Edge.table(0, REALS, "MAX") + "product(0, 0); product(1, 1); product(2, 2); "
            + "product(3, 3); product(4, 4); product(5, 5); "
            + Edge.table(7, REALS, "-1000") + "product(6, 7) = 8; table(2, 1); row(9, 0, 2); ");
        for (int j = 0; j < 2; j++) {
            script.append(cells[j].startsWith("table ") ? Edge.script("copy(%s, 0, 0, 9, 0, %d, 1)", cells[j].substring(6),
                j) : Edge.script("put(9, 0, %d, %s)", j, cells[j]));
        }
        return script.toString();
    }

    private static void productEndless() {
        String words = "13: REALS: added, without an end";
        String ones = Edge.table(10, REALS, "1000 | 1000") + "product(9, 10) = 11; ";
        Edge.run(words, endless("table 6", "table 6") + ones + "real(11, 0, 0) = Infinity; get(11, 0, 0) = MAX; "
            + "total(11) = MAX; alike(11, 11) = 1; alike(11, 6) = 1; alike(11, 8) = 0");
        Edge.run(words + ", below 0", endless("table 8", "table 8") + ones + "real(11, 0, 0) = -Infinity; get(11, 0, 0) = MIN; "
            + "total(11) = MIN; alike(11, 11) = 1; alike(11, 8) = 1; alike(11, 6) = 0");
        Edge.run(words + ", and a number", endless("table 6", "-5000") + ones + "real(11, 0, 0) = Infinity; alike(11, 6) = 1");
        Edge.run(words + ", a number first", endless("5000", "table 8") + ones + "real(11, 0, 0) = -Infinity; alike(11, 8) = 1");
        Edge.run(words + ", times below 0", endless("table 6", "0") + "product(7, 9) = 10; real(10, 0, 0) = -Infinity; "
            + "product(8, 7) = 11; real(11, 0, 0) = Infinity; product(8, 8) = 12; real(12, 0, 0) = Infinity; "
            + "product(6, 8) = 13; real(13, 0, 0) = -Infinity");
    }

    private static void productNoNumber() {
        String words = "7, 8, 17: what is no number";
        String ones = Edge.table(10, REALS, "1000 | 1000") + "product(9, 10) = 11; ";
        String lost = "real(11, 0, 0) = 0.0; get(11, 0, 0) = 0; total(11) = 0; alike(11, 11) = 0; ";
        Edge.run(words + ": endless less endless", endless("table 6", "table 8") + ones + lost);
        Edge.run(words + ": endless below 0 and endless", endless("table 8", "table 6") + ones + lost);
        Edge.run(words + ": endless times 0, behind a number", endless("5000", "table 6") + Edge.table(10, REALS, "1000 | 0")
            + "product(9, 10) = 11; " + lost);
        Edge.run(words + ": endless times 0, ahead of a number", endless("table 6", "5000")
            + Edge.table(10, REALS, "0 | 1000") + "product(9, 10) = 11; " + lost);
        Edge.run(words + ": 0 times endless", endless("0", "0") + "turned(9) = 10; product(6, 9) = 11; " + lost
            + "product(10, 8) = 12; real(12, 1, 0) = 0.0; alike(12, 12) = 0");
        Edge.run(words + ", times a number", endless("table 6", "table 8") + ones + "product(11, 7) = 12; "
            + "real(12, 0, 0) = 0.0; alike(12, 12) = 0; product(7, 11) = 13; real(13, 0, 0) = 0.0; alike(13, 13) = 0; "
            + "alike(12, 13) = 0");
        Edge.run(words + ", times what is none", endless("table 6", "table 8") + ones + "product(11, 11) = 12; "
            + "real(12, 0, 0) = 0.0; alike(12, 12) = 0");
        String second = endless("table 6", "5000") + Edge.table(10, REALS, "1000 0 | 0 1000")
            + Edge.table(11, REALS, "0 1000 | 1000 0");
        Edge.run(words + ", both CELLS", second + "product(9, 10) = 12; real(12, 0, 0) = Infinity; real(12, 0, 1) = 0.0; "
            + "put(12, 0, 0, 0); alike(12, 12) = 0; put(12, 0, 1, 0); alike(12, 12) = 1");
        Edge.run(words + ", the second CELL, to a number and back", second + "product(9, 10) = 12; put(12, 0, 0, 0); "
            + "table(2, 1); row(13, 0, 2); alike(12, 13) = 0; alike(13, 12) = 0; put(12, 0, 1, 0); alike(12, 13) = 1; "
            + "alike(13, 12) = 1");
        Edge.run(words + ", the first CELL", second + "product(9, 11) = 12; real(12, 0, 0) = 0.0; real(12, 0, 1) = Infinity; "
            + "put(12, 0, 1, 0); table(2, 1); row(13, 0, 2); alike(12, 13) = 0; alike(13, 12) = 0; put(12, 0, 0, 0); "
            + "alike(12, 13) = 1");
        Edge.run(words + ", the second CELL behind a number", endless("7000", "table 6")
            + Edge.table(10, REALS, "1000 1000 | 1000 0") + "product(9, 10) = 11; real(11, 0, 0) = Infinity; "
                + "real(11, 0, 1) = 0.0; get(11, 0, 1) = 0");
    }

    private static void productSizes() {
        String words = "13: at x, y: HIGH of the first by WIDE of the second";
        Edge.run(words + ", one by sixteen", Edge.table(0, NUMBERS, "2") + Edge.table(1, NUMBERS, SIXTEEN)
            + "product(0, 1) = 2; " + Edge.holds(2, NUMBERS, "2 4 6 8 10 12 14 16 18 20 22 24 26 28 30 32"));
        Edge.run(words + ", twelve by twelve", Edge.table(0, NUMBERS, Edge.rows("3", 12)) + "table(1, 1); row(1, 0, 12); "
            + "put(1, 0, 0, 2); put(1, 0, 11, 5); product(0, 1) = 2; "
            + "told(2, 0, 1) = 12; told(2, 11, 2) = 12; get(2, 11, 0) = 6; get(2, 11, 11) = 15; get(2, 0, 11) = 15; "
                + "get(2, 0, 5) = 0");
        Edge.run(words + ", over twelve k", Edge.table(0, NUMBERS, "1 2 3 4 5 6 7 8 9 10 11 12")
            + Edge.table(1, NUMBERS, Edge.rows("1", 12)) + "product(0, 1) = 2; " + Edge.holds(2, NUMBERS, "78"));
        for (int kind = 0; kind < 3; kind++) {
            String none = Edge.script("table(%d, 0)", kind) + Edge.table(1, kind, ". | .") + Edge.table(2, kind, "0 | 0")
                + Edge.table(3, kind, ".");
            Edge.run("13: no places", none + "product(0, 0) = 4; " + Edge.holds(4, kind, ""));
            Edge.run("13: over no k there are no CELLS", none + "product(1, 0) = 4; " + Edge.holds(4, kind, ". | ."));
            Edge.run("13: a second of WIDE 0", none + "product(2, 3) = 4; " + Edge.holds(4, kind, ". | ."));
            Edge.refused("13: WIDE 0 of the first is not HIGH of the second", none, "product(0, 1) = STATE; "
                + "product(1, 1) = STATE; product(0, 3) = STATE; product(3, 2) = STATE");
        }
    }

    private static void productNew() {
        for (int kind = 0; kind < 3; kind++) {
            Edge.run("13: new", Edge.table(0, kind, "1") + "product(0, 0) = 1; count(0) = 2; count(1) = 2; "
                + "same(0, 0, 1, 0) = 0; " + Edge.script("told(1, 0, 0) = %d", kind)
                + "put(1, 0, 0, 0); put(0, 0, 0, 1000); get(1, 0, 0) = 0");
        }
        Edge.run("13: new ROWS, of one ROW at two places", Edge.table(0, NUMBERS, "1 2 | -") + "share(0, 1, 0, 0); "
            + "product(0, 0) = 1; " + Edge.holds(1, NUMBERS, "3 6 | 3 6") + "same(1, 0, 1, 1) = 0; count(1) = 3");
    }

    private static void productState() {
        Edge.refused("13: UNKNOWN", Edge.table(0, NUMBERS, "1 2 | 3 4"), "product(0, 1) = UNKNOWN; product(1, 0) = UNKNOWN; "
            + "product(-1, 0) = UNKNOWN; product(0, -1) = UNKNOWN; product(16, 16) = UNKNOWN; product(0, MIN) = UNKNOWN; "
            + "product(MAX, 0) = UNKNOWN");
        Edge.refused("13: STATE: LINKS", Edge.table(0, LINKS, "0") + "table(3, 0); " + Edge.table(2, NUMBERS, "1"),
            "product(0, 0) = STATE; product(1, 1) = STATE; product(0, 2) = STATE; product(2, 0) = STATE");
        for (int kind = 0; kind < 4; kind++) {
            for (int other = 0; other < 4; other++) {
                String pair = Edge.table(0, kind, "0") + Edge.table(1, other, "0");
                if (kind == other && kind != LINKS) {
                    Edge.each("13: two of one KIND (0 to 2)", pair, "product(0, 1) = 2");
                } else {
                    Edge.refused("13: STATE: unlike KINDS", pair, "product(0, 1) = STATE");
                }
            }
        }
        for (String rows : new String[] {"1 2 | -", "- | 1 2", "1 2 | 3", "1 | 2 3", "- | -", "1 2 | .", ". | 1 2"}) {
            Edge.refused("13: STATE: one is not EVEN", Edge.table(0, NUMBERS, "1 2 | 3 4") + Edge.table(1, NUMBERS, rows),
                "product(0, 1) = STATE; product(1, 0) = STATE; product(1, 1) = STATE");
        }
        String[] wide = {"1", "1 2", "1 2 3"};
        String[] high = {"1", "1 | 2", "1 | 2 | 3"};
        for (int w = 0; w < 3; w++) {
            for (int h = 0; h < 3; h++) {
                String pair = Edge.table(0, NUMBERS, wide[w]) + Edge.table(1, NUMBERS, high[h]);
                if (w == h) {
                    Edge.each("13: WIDE of the first is HIGH of the second", pair, "product(0, 1) = 2");
                } else {
                    Edge.refused("13: STATE: WIDE of the first is not HIGH of the second", pair, "product(0, 1) = STATE");
                }
            }
        }
        Edge.refused("13: STATE: WIDE 13 and 16 are no HIGH", "table(1, 1); row(0, 0, 13); table(1, 1); row(1, 0, 16); "
            + "table(1, 12); ", "product(0, 0) = STATE; product(0, 2) = STATE; product(1, 1) = STATE; product(1, 2) = STATE");
    }

    private static void productRoom() {
        String one = Edge.table(0, NUMBERS, "1") + Edge.table(1, LINKS, "0");
        Edge.each("13: room for the sixteenth", one + Edge.empty(13), "product(0, 0) = 15; product(2, 2) = 15");
        Edge.refused("13: ROOM", one + Edge.empty(14), "product(0, 0) = ROOM; product(2, 2) = ROOM");
        Edge.refused("13: STATE ahead of ROOM", one + Edge.empty(14), "product(1, 1) = STATE; product(0, 1) = STATE; "
            + "product(2, 0) = STATE");
    }

    // Promise 14

    private static void distancesSteps() {
        String words = "14: how many steps from place x to place y, by BITS (CELL y of place x is 1: a step)";
        Edge.run(words, Edge.table(0, BITS, "0 1 0 0 | 0 0 1 0 | 1 0 0 0 | 1 0 0 1") + "distances(0) = 1; " + Edge.holds(1,
            NUMBERS, "0 1 2 -1 | 2 0 1 -1 | 1 2 0 -1 | 1 2 3 0"));
        Edge.run(words + ", the shortest", Edge.table(0, BITS, "0 1 0 1 | 0 0 1 0 | 0 0 0 1 | 0 0 0 0") + "distances(0) = 1; "
            + Edge.holds(1, NUMBERS, "0 1 2 1 | -1 0 1 2 | -1 -1 0 1 | -1 -1 -1 0"));
        Edge.run(words + ", the shortest found late", Edge.table(0, BITS, "0 0 0 1 | 0 0 0 0 | 0 1 0 0 | 0 0 1 0")
            + "distances(0) = 1; " + Edge.holds(1, NUMBERS, "0 3 2 1 | -1 0 -1 -1 | -1 1 0 -1 | -1 2 1 0"));
        StringBuilder ring = new StringBuilder("table(0, 12); ");
        StringBuilder due = new StringBuilder();
        for (int x = 0; x < 12; x++) {
            ring.append(Edge.script("row(0, %d, 12)", x)).append(Edge.script("put(0, %d, %d, 1)", x, (x + 1) % 12));
            for (int y = 0; y < 12; y++) {
                due.append(Edge.script("get(1, %d, %d) = %d", x, y, Math.floorMod(y - x, 12)));
            }
        }
        Edge.run(words + ", eleven steps", ring + "distances(0) = 1; told(1, 0, 0) = 1; told(1, 0, 1) = 12; " + due);
        Edge.run("14: A new TABLE of NUMBERS", Edge.table(0, BITS, "1") + "distances(0) = 1; told(1, 0, 0) = 1; "
            + "told(0, 0, 0) = 0; get(0, 0, 0) = 1; count(0) = 2; count(1) = 2; same(0, 0, 1, 0) = 0; put(0, 0, 0, 0); "
            + "get(1, 0, 0) = 0");
    }

    private static void distancesNoWay() {
        Edge.run("14: 0 to itself", Edge.table(0, BITS, "1 1 | 1 1") + "distances(0) = 1; "
            + Edge.holds(1, NUMBERS, "0 1 | 1 0"));
        Edge.run("14: 0 to itself, without a step, too", Edge.table(0, BITS, "0") + "distances(0) = 1; " + Edge.holds(1,
            NUMBERS, "0"));
        Edge.run("14: -1: there is no way", Edge.table(0, BITS, "0 0 | 0 0") + "distances(0) = 1; "
            + Edge.holds(1, NUMBERS, "0 -1 | -1 0"));
        Edge.run("14: -1: there is no way back", Edge.table(0, BITS, "0 1 | 0 0") + "distances(0) = 1; " + Edge.holds(1,
            NUMBERS, "0 1 | -1 0"));
        Edge.run("14: of one ROW at all places", Edge.table(0, BITS, "0 1 0 | - | -") + "share(0, 1, 0, 0); share(0, 2, 0, 0); "
            + "distances(0) = 1; " + Edge.holds(1, NUMBERS, "0 1 -1 | -1 0 -1 | -1 1 0") + "count(1) = 4");
    }

    private static void distancesSizes() {
        Edge.run("14: no places", "table(0, 0); distances(0) = 1; " + Edge.holds(1, NUMBERS, "") + "count(0) = 2");
        for (int n = 1; n <= 12; n++) {
            StringBuilder script = new StringBuilder(Edge.script("table(0, %d)", n));
            for (int i = 0; i < n; i++) {
                script.append(Edge.script("row(0, %d, %d)", i, n)).append(i + 1 < n ? Edge.script("put(0, %d, %d, -7)", i, i
                    + 1) : "");
            }
            script.append("distances(0) = 1; ").append(Edge.script("told(1, 0, 1) = %d",
                n)).append(Edge.script("told(1, %d, 2) = %d", n - 1, n));
            Edge.run("14: a chain of n places", script + Edge.script("get(1, 0, %d) = %d", n - 1, n - 1)
                + Edge.script("get(1, %d, 0) = %d", n - 1, n == 1 ? 0 : -1));
        }
    }

    private static void distancesRefused() {
        String one = Edge.table(0, BITS, "1");
        Edge.refused("14: UNKNOWN", one, "distances(1) = UNKNOWN; distances(-1) = UNKNOWN; distances(16) = UNKNOWN; "
            + "distances(MIN) = UNKNOWN");
        Edge.refused("14: STATE: no BITS", Edge.table(0, NUMBERS, "1") + Edge.table(1, REALS, "1") + Edge.table(2, LINKS, "0")
            + "table(1, 0); table(2, 0); table(3, 0); ",
            "distances(0) = STATE; distances(1) = STATE; distances(2) = STATE; distances(3) = STATE; distances(4) = STATE; "
                + "distances(5) = STATE");
        for (String rows : new String[] {"-", "1 1 | -", "- | 1 1", "1 1", "1 | 1", "1 1 | 1", "1 | 1 1", "1 1 | 1 1 1",
            "1 1 1 | 1 1 1", ".", ". | .", Edge.row("1", 16)}) {
            Edge.refused("14: STATE: not square", Edge.table(0, BITS, rows), "distances(0) = STATE");
        }
        Edge.each("14: room for the sixteenth", one + Edge.empty(14), "distances(0) = 15");
        Edge.refused("14: ROOM", one + Edge.empty(15), "distances(0) = ROOM");
        Edge.refused("14: STATE ahead of ROOM", one + Edge.table(1, BITS, "1 1") + Edge.empty(14), "distances(1) = STATE; "
            + "distances(2) = STATE");
    }

    // Promises 15 and 16

    /** A table of so many bits, all 1: rows of sixteen, and what is left. */
    private static String ones(int bits) {
        StringBuilder script = new StringBuilder("table(0, 12); row(0, 0, 16); put(0, 0, 0, 1); copy(0, 0, 0, 0, 0, 1, 1); "
            + "copy(0, 0, 0, 0, 0, 2, 2); copy(0, 0, 0, 0, 0, 4, 4); copy(0, 0, 0, 0, 0, 8, 8); ");
        for (int i = 1; i < 12; i++) {
            int length = Math.max(0, Math.min(16, bits - 16 * i));
            script.append(Edge.script("row(0, %d, %d)", i, length)).append(Edge.script("copy(0, 0, 0, 0, %d, 0, %d)", i, length));
        }
        if (bits < 16) {
            script.append(Edge.script("row(0, 1, %d)", bits)).append(Edge.script("copy(0, 0, 0, 0, 1, 0, %d)",
                bits)).append("row(0, 0, 0); ");
        }
        return script.toString();
    }

    private static void packWords() {
        String words = "15: 32 a word: how many words (the last one filled with 0)";
        for (int bits = 0; bits <= 192; bits++) {
            StringBuilder script = new StringBuilder(ones(bits) + Edge.script("pack(0) = %d", (bits + 31) / 32));
            for (int w = 0; w < 7; w++) {
                int left = bits - 32 * w;
                script.append("word(" + w + ") = " + (left <= 0 ? "NONE" : left >= 32 ? -1 : (1 << left) - 1) + "; ");
            }
            Edge.run(words, script.toString());
        }
        Edge.run("15: no places", "table(0, 0); pack(0) = 0; word(0) = NONE; count(3) = 0");
        Edge.run("15: no CELLS", Edge.table(0, BITS, Edge.rows(".", 12)) + "pack(0) = 0; word(0) = NONE");
        Edge.run("15: filled with 0, whatever stood there", ones(192) + "pack(0) = 6; " + Edge.table(1, BITS, Edge.row("0",
            16) + " | " + Edge.row("1", 16) + " | 0") + "pack(1) = 2; word(0) = -65536; word(1) = 0; word(2) = NONE; "
            + "word(5) = NONE");
    }

    /** One bit of 192 after the other. */
    private static void packOrder() {
        String words = "15: BITS packed place by place, CELL by CELL, from the lowest bit of word 0 on";
        StringBuilder zeros = new StringBuilder("table(0, 12); ");
        for (int i = 0; i < 12; i++) {
            zeros.append(Edge.script("row(0, %d, 16)", i));
        }
        for (int bit = 0; bit < 192; bit++) {
            StringBuilder script = new StringBuilder(zeros + Edge.script("put(0, %d, %d, 1)", bit / 16, bit % 16)
                + "pack(0) = 6; ");
            for (int w = 0; w < 6; w++) {
                script.append(Edge.script("word(%d) = %d", w, bit / 32 == w ? 1 << bit : 0));
            }
            Edge.run(words, script.toString());
        }
        Edge.run(words + ", ragged", Edge.table(0, BITS, "1 0 1 | . | 1 1 | 0 | 1") + "pack(0) = 1; word(0) = 93");
        Edge.run(words + ", one ROW at several places", Edge.table(0, BITS, "1 0 | - | -") + "share(0, 1, 0, 0); "
            + "share(0, 2, 0, 0); pack(0) = 1; word(0) = 21");
    }

    private static void packRefused() {
        String packed = Edge.table(0, BITS, "1 0 1") + "pack(0); ";
        Edge.refused("15: UNKNOWN", packed, "pack(1) = UNKNOWN; pack(-1) = UNKNOWN; pack(16) = UNKNOWN; pack(MAX) = UNKNOWN; "
            + "pack(MIN) = UNKNOWN");
        Edge.refused("15: STATE: no BITS", packed + Edge.table(1, NUMBERS, "1") + Edge.table(2, REALS, "1") + Edge.table(3,
            LINKS, "1") + "table(1, 0); ",
            "pack(1) = STATE; pack(2) = STATE; pack(3) = STATE; pack(4) = STATE");
        Edge.refused("15: STATE ahead of NULL", packed + Edge.table(1, NUMBERS, "-") + Edge.table(2, REALS, "1 | -")
            + Edge.table(3, LINKS, "- | 1"), "pack(1) = STATE; pack(2) = STATE; pack(3) = STATE");
        for (String rows : new String[] {"-", "0 1 | -", "- | 0 1", "0 1 | - | 0 1", "- | -", ". | -", Edge.rows("0", 11) + " | -"}) {
            Edge.refused("15: NULL", packed + Edge.table(1, BITS, rows), "pack(1) = NULL");
        }
        Edge.refused("15: NULL, before anything was packed", Edge.table(0, BITS, "1 | -"), "pack(0) = NULL");
        Edge.refused("15: once more changes nothing", packed, "pack(0) = 1");
    }

    private static void wordNone() {
        Edge.refused("16: NONE, before anything was packed", Edge.table(0, BITS, "1"), "word(0) = NONE; word(-1) = NONE; "
            + "word(5) = NONE; word(6) = NONE");
        Edge.refused("16: NONE, below and above", Edge.table(0, BITS, "1") + "pack(0); ", "word(-1) = NONE; word(1) = NONE; "
            + "word(2) = NONE; word(6) = NONE; word(MAX) = NONE; word(MIN) = NONE; word(0) = 1");
        Edge.refused("16: NONE, behind the last of six", ones(192) + "pack(0); ", "word(-1) = NONE; word(6) = NONE; "
            + "word(7) = NONE; word(192) = NONE; word(MAX) = NONE; word(MIN) = NONE; word(0) = -1; word(5) = -1");
        Edge.run("16: NONE, after none was packed", Edge.table(0, BITS, "1") + "table(0, 0); pack(0) = 1; word(0) = 1; "
            + "pack(1) = 0; word(0) = NONE; count(3) = 0");
    }

    private static void wordLast() {
        String words = "16: Word i of what was packed last";
        Edge.run(words, Edge.table(0, BITS, "1 1") + Edge.table(1, BITS, "0 1") + "pack(0) = 1; word(0) = 3; pack(1) = 1; "
            + "word(0) = 2; pack(0) = 1; word(0) = 3");
        Edge.run(words + ": not what stands there now", Edge.table(0, BITS, "1 1") + "pack(0) = 1; put(0, 0, 0, 0); "
            + "word(0) = 3; fall(0, 0); word(0) = 3; pack(0) = NULL; word(0) = 3; pack(1) = UNKNOWN; word(0) = 3");
        Edge.run("16: (It may be any number.)", "table(0, 2); row(0, 0, 16); row(0, 1, 16); put(0, 1, 15, 1); pack(0) = 1; "
            + "word(0) = MIN");
        // NONE as bits: -1000009 is 1111 1111 1111 0000 1011 1101 1011 0111.
        Edge.run("16: (It may be any number.), NONE too", Edge.table(0, BITS,
            "1 1 1 0 1 1 0 1 1 0 1 1 1 1 0 1 | 0 0 0 0 1 1 1 1 1 1 1 1 1 1 1 1") + "pack(0) = 1; word(0) = NONE; word(1) = NONE");
    }

    // Promise 17

    private static void alikeKindAndPlaces() {
        String kinds = "table(0, 0); table(1, 0); table(2, 0); table(3, 0); ";
        for (int t = 0; t < 4; t++) {
            for (int u = 0; u < 4; u++) {
                Edge.refused("17: the same KIND", kinds, Edge.script("alike(%d, %d) = %d", t, u, t == u ? 1 : 0));
            }
        }
        Edge.each("17: the same KIND, with CELLS", Edge.table(0, BITS, "1 0") + Edge.table(1, NUMBERS, "1 0"),
            "alike(0, 1) = 0; alike(1, 0) = 0");
        Edge.each("17: as many places", "table(1, 0); table(1, 1); table(1, 11); table(1, 12); table(1, 12); ",
            "alike(0, 1) = 0; alike(1, 0) = 0; alike(2, 3) = 0; alike(3, 2) = 0; alike(3, 4) = 1; alike(0, 0) = 1; "
            + "alike(0, 3) = 0");
        Edge.refused("17: UNKNOWN", Edge.table(0, NUMBERS, "1"), "alike(0, 1) = UNKNOWN; alike(1, 0) = UNKNOWN; "
            + "alike(-1, 0) = UNKNOWN; alike(0, -1) = UNKNOWN; alike(16, 16) = UNKNOWN; alike(MIN, 0) = UNKNOWN; "
            + "alike(0, MAX) = UNKNOWN");
    }

    private static void alikeFallen() {
        String words = "17: at each both are FALLEN, or ROWS";
        String[] rows = {"- | 1", "1 | -", "- | -", "1 | 1", ". | 1", "1 | .", ". | ."};
        for (int k = 0; k < rows.length; k++) {
            for (int m = 0; m < rows.length; m++) {
                Edge.each(words, Edge.table(0, NUMBERS, rows[k]) + Edge.table(1, NUMBERS, rows[m]), "alike(0, 1) = "
                    + (k == m ? 1 : 0));
            }
        }
    }

    private static void alikeCells() {
        String words = "17: ROWS with the same CELLS";
        String[] rows = {".", "0", "1", "0 0", "0 1", "1 0", "0 0 0"};
        for (int kind = 0; kind < 3; kind++) {
            for (int k = 0; k < rows.length; k++) {
                for (int m = 0; m < rows.length; m++) {
                    Edge.each(words, Edge.table(0, kind, "0 | " + rows[k]) + Edge.table(1, kind, "0 | " + rows[m]),
                        "alike(0, 1) = " + (k == m ? 1 : 0));
                }
            }
        }
        Edge.each(words + ", the last of sixteen", Edge.table(0, NUMBERS, Edge.row("1", 16))
            + Edge.table(1, NUMBERS, Edge.row("1", 15) + " 2") + Edge.table(2, NUMBERS, "2 " + Edge.row("1", 15))
            + Edge.table(3, NUMBERS, Edge.row("1", 16)),
            "alike(0, 1) = 0; alike(0, 2) = 0; alike(1, 2) = 0; alike(0, 3) = 1");
        Edge.each(words + ", the last of twelve", Edge.table(0, NUMBERS, Edge.rows("1", 12))
            + Edge.table(1, NUMBERS, Edge.rows("1", 11) + " | 2") + Edge.table(2, NUMBERS, Edge.rows("1", 12)),
                "alike(0, 1) = 0; alike(0, 2) = 1");
        Edge.run(words + ", not what stood behind the last before", Edge.table(0, NUMBERS, "1 2 3") + "row(0, 0, 1); "
            + "put(0, 0, 0, 1); " + Edge.table(1, NUMBERS, "1") + "alike(0, 1) = 1");
        Edge.run(words + ", of one ROW", Edge.table(0, NUMBERS, "1 2") + "table(1, 1); share(1, 0, 0, 0); alike(0, 1) = 1; "
            + "put(1, 0, 0, 9); alike(0, 1) = 1; copy(1, 0, 0, 0, 0, 1, 1); alike(0, 1) = 1");
        Edge.each(words + ", MAX and MIN", Edge.table(0, NUMBERS, "MAX") + Edge.table(1, NUMBERS, "MIN") + Edge.table(2,
            NUMBERS, "-1"), "alike(0, 1) = 0; alike(1, 0) = 0; alike(0, 2) = 0");
    }

    private static void alikeReals() {
        Edge.each("17: reals by ==", Edge.table(0, REALS, "1000") + Edge.table(1, REALS, "1001")
            + Edge.table(2, REALS, "1000") + Edge.table(3, REALS, "-1000") + Edge.table(4, REALS, "999"),
            "alike(0, 1) = 0; alike(0, 2) = 1; alike(0, 3) = 0; alike(0, 4) = 0");
        String near = Edge.table(0, REALS, "100 200") + Edge.table(1, REALS, "1000 | 1000") + "product(0, 1); "
            + Edge.table(3, REALS, "300");
        Edge.run("17: reals by ==: 0.1 + 0.2 is not 0.3", near + "alike(2, 3) = 0; get(2, 0, 0) = 0; get(3, 0, 0) = 0");
        StringBuilder lost = new StringBuilder(Edge.table(0, REALS, "MAX") + "product(0, 0); product(1, 1); product(2, 2); "
            + "product(3, 3); product(4, 4); product(5, 5); ");
        lost.append(Edge.table(7, REALS, "0")).append("product(6, 7) = 8; product(6, 6) = 9; ");
        Edge.run("17: reals by ==: what is no number", lost + "alike(6, 6) = 1; alike(6, 9) = 1; alike(8, 8) = 0; "
            + "alike(7, 8) = 0; alike(8, 7) = 0; copy(7, 0, 0, 8, 0, 0, 1); alike(8, 8) = 1; alike(7, 8) = 1");
        Edge.run("17: what is no number, copied and turned", lost + "turned(8) = 10; alike(10, 10) = 0; " + Edge.table(11,
            REALS, "5 6") + "alike(11, 11) = 1; copy(8, 0, 0, 11, 0, 1, 1); alike(11, 11) = 0; real(11, 0, 1) = 0.0; "
            + "put(11, 0, 1, 6); alike(11, 11) = 1");
    }

    private static void alikeLinks() {
        Edge.each("17: LINKS to the same TABLE", Edge.table(0, LINKS, "0 NONE") + Edge.table(1, LINKS, "0 NONE")
            + Edge.table(2, LINKS, "1 NONE") + Edge.table(3, LINKS, "0 0") + Edge.table(4, LINKS, "NONE NONE"),
            "alike(0, 1) = 1; alike(0, 2) = 0; alike(0, 3) = 0; alike(0, 4) = 0; alike(2, 2) = 1; alike(4, 4) = 1");
        Edge.each("17: LINKS to TABLES that are alike are not the same", "table(1, 1); table(1, 1); "
            + Edge.table(2, LINKS, "0") + Edge.table(3, LINKS, "1"), "alike(0, 1) = 1; alike(2, 3) = 0");
        Edge.each("17: LINKS that come round", Edge.table(0, LINKS, "0") + Edge.table(1, LINKS, "0"), "alike(0, 1) = 1; "
            + "alike(0, 0) = 1");
    }

    // Promise 18

    private static void sameRow() {
        String words = "18: Whether one ROW stands at both places";
        Edge.run(words, "table(1, 12); table(1, 12); row(0, 0, 1); row(0, 11, 1); share(1, 11, 0, 0); same(0, 0, 0, 0) = 1; "
            + "same(0, 0, 1, 11) = 1; same(1, 11, 0, 0) = 1; same(0, 0, 0, 11) = 0; same(0, 11, 1, 11) = 0; "
            + "same(0, 11, 0, 11) = 1");
        Edge.run(words + ", not one that is alike", Edge.table(0, NUMBERS, "1 | 1") + "same(0, 0, 0, 1) = 0; "
            + "share(0, 0, 0, 1); same(0, 0, 0, 1) = 1; row(0, 0, 1); same(0, 0, 0, 1) = 0");
        Edge.run(words + ", of no CELLS", Edge.table(0, BITS, ". | . | -") + "share(0, 2, 0, 0); same(0, 0, 0, 1) = 0; "
            + "same(0, 0, 0, 2) = 1");
        Edge.run(words + ", of unlike KINDS", Edge.table(0, BITS, "0") + Edge.table(1, NUMBERS, "0") + "same(0, 0, 1, 0) = 0; "
            + "count(3) = 0");
    }

    private static void sameFallen() {
        Edge.refused("18: (one is FALLEN, too: 0)", Edge.table(0, NUMBERS, "1 | - | -") + Edge.table(1, BITS, "-"),
            "same(0, 0, 0, 1) = 0; same(0, 1, 0, 0) = 0; same(0, 1, 0, 2) = 0; same(0, 1, 0, 1) = 0; same(0, 1, 1, 0) = 0; "
            + "same(1, 0, 0, 0) = 0");
    }

    private static void sameRefused() {
        String story = Edge.table(0, NUMBERS, "1 | -") + "table(0, 0); ";
        Edge.refused("18: UNKNOWN", story, "same(2, 0, 0, 0) = UNKNOWN; same(0, 0, 2, 0) = UNKNOWN; "
            + "same(-1, 0, 0, 0) = UNKNOWN; same(0, 9, -1, 9) = UNKNOWN; same(2, 9, 2, 9) = UNKNOWN");
        for (String i : new String[] {"-1", "2", "12", "16", "MAX", "MIN", "NONE"}) {
            Edge.refused("18: INDEX", story, "same(0, " + i + ", 0, 0) = INDEX; same(0, 0, 0, " + i + ") = INDEX; same(0, "
                + i + ", 0, 1) = INDEX; same(0, 1, 0, " + i + ") = INDEX; same(0, " + i + ", 0, " + i + ") = INDEX");
        }
        Edge.refused("18: INDEX, of no places", story, "same(1, 0, 0, 0) = INDEX; same(0, 0, 1, 0) = INDEX; "
            + "same(1, 0, 1, 0) = INDEX");
    }
}
