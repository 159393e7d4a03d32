/** The sentences of promises 19 to 23 (totals, depths, counts, clear) that name a boundary case, each with a test of its own. */
public final class EdgesLinksTest {
    private static final int BITS = Edge.BITS, NUMBERS = Edge.NUMBERS, REALS = Edge.REALS, LINKS = Edge.LINKS;
    private static final String ALL_SIXTEEN = "copy(%1$d, 0, 0, %1$d, 0, 1, 1); copy(%1$d, 0, 0, %1$d, 0, 2, 2); "
        + "copy(%1$d, 0, 0, %1$d, 0, 4, 4); copy(%1$d, 0, 0, %1$d, 0, 8, 8); ";

    public static void main(String[] args) {
        totalCells();
        totalWrapping();
        totalLinks();
        totalFallen();
        totalRing();
        totalOrder();
        totalSpent();
        totalSpentOrRing();
        totalSpentOrNull();
        totalLeavesNoMark();
        totalUnknown();
        enteredAtFirst();
        enteredAsOften();
        enteredFailed();
        deepOthers();
        deepDeepest();
        deepRing();
        deepFallen();
        deepUnknown();
        countTables();
        countRows();
        countFallen();
        countFailed();
        countOutside();
        clearAll();
        Due.end();
    }

    // Promise 19

    private static void totalCells() {
        Edge.each("19: bits that are 1", "table(0, 0); " + Edge.table(1, BITS, ".") + Edge.table(2, BITS, "0 0 | 0")
            + Edge.table(3, BITS, "1 0 1 | . | 1 1"), "total(0) = 0; total(1) = 0; total(2) = 0; total(3) = 4");
        Edge.each("19: numbers", "table(1, 0); " + Edge.table(1, NUMBERS, ". | .")
            + Edge.table(2, NUMBERS, "5 -7 | 3 | . | 0") + Edge.table(3, NUMBERS, "NULL") + Edge.table(4, NUMBERS, "UNKNOWN"),
            "total(0) = 0; total(1) = 0; total(2) = 1; total(3) = NULL; total(4) = UNKNOWN");
        Edge.refused("19: (It may be any number.) That is no FAIL", Edge.table(0, NUMBERS, "NULL") + "total(0); ",
            "entered() = 1; count(3) = 0");
        Edge.run("19: (It may be any number.) That is no FAIL", Edge.table(0, NUMBERS, "SPENT") + "total(0) = SPENT; "
            + "count(3) = 0; " + Edge.table(1, LINKS, "0 NONE") + "total(1) = SPENT; count(3) = 0; entered() = 2");
        Edge.each("19: reals cut each", "table(2, 0); " + Edge.table(1, REALS, "999 999 999")
            + Edge.table(2, REALS, "1999 | 1999 | -999") + Edge.table(3, REALS, "-1999 -1999 500"), "total(0) = 0; "
                + "total(1) = 0; total(2) = 2; "
            + "total(3) = -2");
        Edge.run("19: a ROW at several places counts at each", Edge.table(0, NUMBERS, "7 | - | -") + "share(0, 1, 0, 0); "
            + "share(0, 2, 0, 0); total(0) = 21");
        Edge.run("19: twelve places of sixteen CELLS", "table(0, 12); row(0, 0, 16); put(0, 0, 0, 1); "
            + String.format(ALL_SIXTEEN, 0) + shares(0, 11) + "total(0) = 192; entered() = 1");
    }

    /** The row at place 0 at the places up to the last one, too. */
    private static String shares(int table, int last) {
        StringBuilder script = new StringBuilder();
        for (int i = 1; i <= last; i++) {
            script.append(Edge.script("share(%1$d, %2$d, %1$d, 0)", table, i));
        }
        return script.toString();
    }

    private static void totalWrapping() {
        String words = "19: added, wrapping";
        Edge.each(words, Edge.table(0, NUMBERS, "MAX 1") + Edge.table(1, NUMBERS, "MIN | -1")
            + Edge.table(2, NUMBERS, "MAX | MAX") + Edge.table(3, NUMBERS, "MIN MIN") + Edge.table(4, NUMBERS, "MAX MIN")
            + Edge.table(5, NUMBERS, "2147483646 1"),
            "total(0) = MIN; total(1) = MAX; total(2) = -2; total(3) = 0; total(4) = -1; total(5) = MAX");
        Edge.run(words + ", through LINKS", Edge.table(0, NUMBERS, "MAX") + Edge.table(1, LINKS, "0 0 0")
            + "total(1) = 2147483645; entered() = 4");
        Edge.run(words + ", of reals beyond 32 bits", Edge.table(0, REALS, "MAX") + "product(0, 0); "
            + Edge.table(2, REALS, "0 1000") + "copy(1, 0, 0, 2, 0, 0, 1); total(1) = MAX; total(2) = MIN");
    }

    private static void totalLinks() {
        String words = "19: for LINKS the totals of their TABLES";
        String three = Edge.table(0, NUMBERS, "5 6") + "table(3, 0); " + Edge.table(2, BITS, "1 | 1")
            + Edge.table(3, REALS, "-2500");
        Edge.each(words, three + Edge.table(4, LINKS, "0") + Edge.table(5, LINKS, "NONE NONE")
            + Edge.table(6, LINKS, "0 NONE 2 | . | 3 1") + Edge.table(7, LINKS, "6 6 | 4"),
            "total(4) = 11; total(5) = 0; total(6) = 11; total(7) = 33; total(1) = 0");
        Edge.run(words + ": NONE is no number", Edge.table(0, LINKS, "NONE") + "total(0) = 0; entered() = 1; count(3) = 0");
    }

    private static void totalFallen() {
        String words = "19: NULL: a place is FALLEN, here or in a TABLE linked";
        for (String rows : new String[] {"-", "0 | -", "- | 0", "0 | - | 0", "- | -", ". | -"}) {
            for (int kind = 0; kind < 4; kind++) {
                String here = Edge.table(0, kind, rows.replace("0", kind == LINKS ? "NONE" : "0"));
                Edge.refused(words, here, "total(0) = NULL");
                Edge.refused(words, here + Edge.table(1, LINKS, "NONE 0") + Edge.table(2, LINKS, "1"), "total(1) = NULL; "
                    + "total(2) = NULL");
            }
        }
        Edge.refused(words + ", the last of twelve", "table(1, 12); row(0, 0, 1); " + shares(0, 10), "total(0) = NULL");
        Edge.each("19: one that is FALLEN in a TABLE that is not linked", Edge.table(0, NUMBERS, "-")
            + Edge.table(1, LINKS, "NONE") + Edge.table(2, NUMBERS, "4"), "total(1) = 0; total(2) = 4; total(0) = NULL");
        Edge.each("19: no place is no FALLEN one", "table(1, 0); " + Edge.table(1, LINKS, "0 0"), "total(0) = 0; total(1) = 0");
    }

    private static void totalRing() {
        String words = "19: RING: a LINK to a TABLE whose total is just being found";
        Edge.refused(words + ", to itself", Edge.table(0, LINKS, "0"), "total(0) = RING");
        String two = "table(3, 1); row(0, 0, 1); " + Edge.table(1, LINKS, "0") + "put(0, 0, 0, 1); ";
        Edge.refused(words + ", of two", two, "total(0) = RING; total(1) = RING");
        Edge.refused(words + ", below", two + Edge.table(2, LINKS, "NONE 1"), "total(2) = RING");
        Edge.each("19: twice in a row, or by two ways, is no RING", Edge.table(0, NUMBERS, "1") + Edge.table(1, LINKS, "0 0")
            + Edge.table(2, LINKS, "1 0 1 | 0") + Edge.table(3, LINKS, "2 1 0 | 2"), "total(1) = 2; total(2) = 6; total(3) = 15");
        Edge.each("19: a RING that is not reached", two + Edge.table(2, LINKS, "NONE") + Edge.table(3, NUMBERS, "0"),
            "total(2) = 0; total(3) = 0");
        StringBuilder chain = new StringBuilder();
        for (int t = 0; t < 16; t++) {
            chain.append(Edge.table(t, LINKS, t == 0 ? "NONE" : String.valueOf(t - 1)));
        }
        Edge.run("19: sixteen, one below the other, are no RING", chain + "total(15) = 0; entered() = 16; total(0) = 0; "
            + "entered() = 1");
        for (int t = 0; t < 16; t++) {
            Edge.refused(words + ", of sixteen", chain + Edge.script("put(0, 0, 0, %d)", t), "total(15) = RING; total(0) = RING");
        }
    }

    private static void totalOrder() {
        String words = "19: What comes first in this order";
        String ringAndFallen = Edge.table(0, LINKS, "0") + Edge.table(1, NUMBERS, "-");
        Edge.refused(words + ": the CELL ahead", ringAndFallen + Edge.table(2, LINKS, "0 1") + Edge.table(3, LINKS, "1 0"),
            "total(2) = RING; total(3) = NULL");
        Edge.refused(words + ": the place ahead", ringAndFallen + Edge.table(2, LINKS, "0 | 1")
            + Edge.table(3, LINKS, "1 | 0"), "total(2) = RING; total(3) = NULL");
        Edge.refused(words + ": a place that is FALLEN behind or ahead", ringAndFallen + Edge.table(2, LINKS, "0 | -")
            + Edge.table(3, LINKS, "- | 0") + Edge.table(4, LINKS, "4 | -") + Edge.table(5, LINKS, "- | 5"),
            "total(2) = RING; total(3) = NULL; total(4) = RING; total(5) = NULL");
        Edge.run(words + ": entered() tells how far", ringAndFallen + Edge.table(2, LINKS, "0 1")
            + Edge.table(3, LINKS, "NONE | 1 0") + "total(2) = RING; entered() = 2; total(3) = NULL; entered() = 2");
    }

    /** Table 2 enters itself, 48 and 10 times table 1 with sixteen of table 0 each: 987, and then what the last row says. */
    private static String many(String last) {
        return Edge.table(0, NUMBERS, "1") + "table(3, 1); row(1, 0, 16); put(1, 0, 0, 0); " + String.format(ALL_SIXTEEN, 1)
            + "table(3, 6); row(2, 0, 16); put(2, 0, 0, 1); " + String.format(ALL_SIXTEEN, 2) + shares(2, 2)
            + "row(2, 3, 10); copy(2, 0, 0, 2, 3, 0, 10); row(2, 5, 0); " + lastRow(last);
    }

    private static String lastRow(String last) {
        String[] links = last.split(" ");
        StringBuilder script = new StringBuilder(Edge.script("row(2, 4, %d)", links.length));
        for (int j = 0; j < links.length; j++) {
            script.append("put(2, 4, " + j + ", " + links[j] + "); ");
        }
        return script.toString();
    }

    private static void totalSpent() {
        String words = "19: SPENT: the 1001st TABLE would be entered";
        String thirteen = Edge.row("0", 13);
        Edge.run("19: 999 TABLES are not too many", many(Edge.row("0", 12)) + "total(2) = 940; entered() = 999; count(3) = 0");
        Edge.run("19: 1000 TABLES are not too many", many(thirteen) + "total(2) = 941; entered() = 1000; count(3) = 0");
        Edge.run("19: 1000 TABLES, and LINKS to none", many(thirteen + " NONE NONE NONE") + "total(2) = 941; entered() = 1000; "
            + "count(3) = 0");
        Edge.refused(words, many(thirteen + " 0"), "total(2) = SPENT");
        Edge.run(words, many(thirteen + " 0") + "total(2) = SPENT; entered() = 1000; count(3) = 1; total(2) = SPENT; "
            + "entered() = 1000; count(3) = 2");
        Edge.run(words + ", behind LINKS to none", many(thirteen + " NONE 0") + "total(2) = SPENT; entered() = 1000");
        Edge.run(words + ", in a TABLE that was the 1000th", many(Edge.row("0", 12) + " 1") + "total(2) = SPENT; "
            + "entered() = 1000");
        Edge.run(words + ", in a TABLE below", many("1") + "total(2) = SPENT; entered() = 1000");
        Edge.refused(words + ", in a TABLE below", many("1"), "total(2) = SPENT");
        Edge.run(words + ": each total() begins anew", many(thirteen) + "total(2) = 941; total(2) = 941; entered() = 1000; "
            + "total(1) = 16; entered() = 17; total(2) = 941; entered() = 1000");
        Edge.run("21: deep() is never SPENT", many(thirteen + " 0") + "deep(2) = 2; count(3) = 0");
    }

    private static void totalSpentOrRing() {
        String thirteen = Edge.row("0", 13);
        Edge.run("19: RING ahead of SPENT", many(thirteen + " 2") + "total(2) = RING; entered() = 1000");
        Edge.run("19: RING comes first", many(thirteen + " 2 0") + "total(2) = RING; entered() = 1000");
        Edge.run("19: SPENT comes first", many(thirteen + " 0 2") + "total(2) = SPENT; entered() = 1000");
        Edge.run("19: RING before that", many("2 " + Edge.row("0", 15)) + "total(2) = RING; entered() = 987");
    }

    private static void totalSpentOrNull() {
        String fallen = "table(1, 1); ";
        Edge.run("19: NULL in the 1000th TABLE", many(Edge.row("0", 12)) + fallen + lastRow(Edge.row("0", 12) + " 3")
            + "total(2) = NULL; entered() = 1000");
        Edge.run("19: the 1001st TABLE is not looked at", many(Edge.row("0", 13)) + fallen + lastRow(Edge.row("0", 13) + " 3")
            + "total(2) = SPENT; entered() = 1000");
        Edge.run("19: NULL comes behind 1000 TABLES", many(Edge.row("0", 13)) + "fall(2, 5); total(2) = NULL; entered() = 1000");
        Edge.run("19: SPENT comes ahead of NULL", many(Edge.row("0", 14)) + "fall(2, 5); total(2) = SPENT; entered() = 1000");
        Edge.run("19: NULL comes ahead of SPENT", many(Edge.row("0", 14)) + "fall(2, 3); total(2) = NULL; entered() = 817");
        Edge.run("19: NULL at the first place", many(Edge.row("0", 14)) + "fall(2, 0); total(2) = NULL; entered() = 1");
    }

    private static void totalLeavesNoMark() {
        String words = "What it is: totals that leave no mark";
        Edge.run(words + ", after NULL", Edge.table(0, NUMBERS, "3 | -") + Edge.table(1, LINKS, "0") + "total(1) = NULL; "
            + "total(1) = NULL; total(0) = NULL; deep(1) = 1; row(0, 1, 0); total(1) = 3; total(0) = 3; entered() = 1");
        Edge.run(words + ", after RING", Edge.table(0, LINKS, "0 NONE") + Edge.table(1, LINKS, "0") + "total(1) = RING; "
            + "total(1) = RING; put(0, 0, 0, NONE); total(1) = 0; total(0) = 0; deep(1) = 2; deep(0) = 1");
        Edge.run(words + ", after SPENT", many(Edge.row("0", 14)) + "total(2) = SPENT; put(2, 4, 13, NONE); total(2) = 941; "
            + "total(1) = 16; total(0) = 1; deep(2) = 2; deep(1) = 1");
        Edge.run(words + ", of deep()", Edge.table(0, LINKS, "0 NONE") + Edge.table(1, LINKS, "0") + "deep(1) = RING; "
            + "deep(1) = RING; put(0, 0, 0, NONE); deep(1) = 2; deep(0) = 1; total(1) = 0; total(0) = 0");
        Edge.refused(words, Edge.table(0, LINKS, "0") + Edge.table(1, NUMBERS, "1 | -") + Edge.table(2, LINKS, "1"),
            "deep(0) = RING; total(0) = RING; total(1) = NULL; total(2) = NULL; deep(2) = 1");
    }

    private static void totalUnknown() {
        String story = Edge.table(0, NUMBERS, "1") + Edge.table(1, LINKS, "0 0") + "total(1); ";
        Edge.refused("19: UNKNOWN", story, "total(2) = UNKNOWN; total(-1) = UNKNOWN; total(16) = UNKNOWN; "
            + "total(MAX) = UNKNOWN; total(MIN) = UNKNOWN; total(NONE) = UNKNOWN");
    }

    // Promise 20

    private static void enteredAtFirst() {
        Edge.run("20: 0 at first", "entered() = 0; table(1, 0); entered() = 0; deep(0) = 0; entered() = 0; total(0) = 0; "
            + "entered() = 1");
        Edge.run("20: 0 at first, behind an UNKNOWN, too", "total(0) = UNKNOWN; entered() = 0; count(3) = 0");
        Edge.run("20: asked again", Edge.table(0, NUMBERS, "1") + "total(0); entered() = 1; entered() = 1; put(0, 0, 0, 5); "
            + "fall(0, 0); entered() = 1; count(3) = 0");
    }

    private static void enteredAsOften() {
        String words = "20: the first one, too (each as often as it was)";
        String tables = Edge.table(0, NUMBERS, "1") + Edge.table(1, LINKS, "0 NONE 0") + Edge.table(2, LINKS, "1 1 | 0")
            + "table(3, 0); " + Edge.table(4, LINKS, "3 3 3");
        Edge.run(words, tables + "total(0); entered() = 1; total(1); entered() = 3; total(2); entered() = 8; total(3); "
            + "entered() = 1; total(4); entered() = 4; total(0); entered() = 1");
        Edge.run("20: by the latest total()", tables + "total(2); entered() = 8; deep(2); entered() = 8; alike(2, 2); "
            + "entered() = 8; total(1); entered() = 3; total(9) = UNKNOWN; entered() = 3; total(-1) = UNKNOWN; entered() = 3");
        Edge.run("20: a ROW at several places", tables + "table(3, 2); share(5, 0, 1, 0); share(5, 1, 1, 0); total(5) = 4; "
            + "entered() = 5");
    }

    private static void enteredFailed() {
        String words = "20: those that FAILED, too";
        Edge.run(words + ": the first one", Edge.table(0, NUMBERS, "-") + "total(0) = NULL; entered() = 1");
        Edge.run(words + ": one linked", Edge.table(0, NUMBERS, "-") + Edge.table(1, NUMBERS, "1")
            + Edge.table(2, LINKS, "1 1 0 1") + "total(2) = NULL; entered() = 4");
        Edge.run(words + ": two levels below", Edge.table(0, NUMBERS, "-") + Edge.table(1, LINKS, "0")
            + Edge.table(2, LINKS, "1 1") + "total(2) = NULL; entered() = 3");
        Edge.run(words + ": a RING is not entered again", Edge.table(0, LINKS, "0") + Edge.table(1, LINKS, "0")
            + "total(0) = RING; entered() = 1; total(1) = RING; entered() = 2");
        Edge.run(words + ": what was FALLEN at once", Edge.table(0, LINKS, "- | 0") + "total(0) = NULL; entered() = 1");
        Edge.run(words + ": it is less than before", Edge.table(0, NUMBERS, "1") + Edge.table(1, LINKS, "0 0 0")
            + Edge.table(2, BITS, "-") + "total(1) = 3; entered() = 4; total(2) = NULL; entered() = 1");
    }

    // Promise 21

    private static void deepOthers() {
        Edge.each("21: 0 of other KINDS", Edge.table(0, BITS, "1") + Edge.table(1, NUMBERS, "0") + Edge.table(2, REALS, "0")
            + "table(0, 0); table(1, 1); table(2, 12); ", "deep(0) = 0; deep(1) = 0; deep(2) = 0; deep(3) = 0; deep(4) = 0; "
            + "deep(5) = 0");
        Edge.each("21: else 1 and the deepest of those that are linked (0 without)", "table(3, 0); table(3, 12); "
            + Edge.table(2, LINKS, ".") + Edge.table(3, LINKS, "NONE NONE"), "deep(0) = 1; deep(1) = 1; deep(2) = 1; "
            + "deep(3) = 1");
        Edge.each("21: linked to other KINDS", Edge.table(0, BITS, "1") + Edge.table(1, NUMBERS, "1")
            + Edge.table(2, REALS, "1") + Edge.table(3, LINKS, "0 1 2") + Edge.table(4, LINKS, "NONE | 3"), "deep(3) = 1; "
                + "deep(4) = 2");
    }

    private static void deepDeepest() {
        String words = "21: the deepest of those that are linked";
        String levels = Edge.table(0, LINKS, ".") + Edge.table(1, LINKS, "0") + Edge.table(2, LINKS, "1");
        Edge.each(words, levels + Edge.table(3, LINKS, "0 1 2") + Edge.table(4, LINKS, "2 1 0")
            + Edge.table(5, LINKS, "0 | 2 | 1") + Edge.table(6, LINKS, "1 1 | NONE"), "deep(0) = 1; deep(1) = 2; deep(2) = 3; "
                + "deep(3) = 4; "
            + "deep(4) = 4; deep(5) = 4; deep(6) = 3");
        StringBuilder chain = new StringBuilder(Edge.table(0, LINKS, "NONE"));
        for (int t = 1; t < 16; t++) {
            chain.append(Edge.table(t, LINKS, (t - 1) + " 0"));
        }
        for (int t = 0; t < 16; t++) {
            Edge.each(words + ", sixteen", chain.toString(), Edge.script("deep(%d) = %d", t, t + 1));
        }
        StringBuilder ways = new StringBuilder();
        for (int t = 0; t < 16; t++) {
            ways.append("table(3, 12); ").append(Edge.script("row(%d, 0, 16)", t));
            if (t > 0) {
                ways.append(Edge.script("put(%d, 0, 0, %d)", t, t - 1)).append(String.format(ALL_SIXTEEN, t));
            }
            ways.append(shares(t, 11));
        }
        Edge.run(words + ", by more ways than could be gone one by one", ways + "deep(15) = 16; total(15) = SPENT; "
            + "entered() = 1000; deep(0) = 1; put(0, 0, 15, 15); deep(15) = RING; deep(0) = RING");
    }

    private static void deepRing() {
        String two = "table(3, 1); row(0, 0, 1); " + Edge.table(1, LINKS, "0") + "put(0, 0, 0, 1); ";
        Edge.refused("21: RING, to itself", Edge.table(0, LINKS, "0"), "deep(0) = RING");
        Edge.refused("21: RING, of two", two, "deep(0) = RING; deep(1) = RING");
        Edge.refused("21: RING, below", two + Edge.table(2, LINKS, "NONE 1") + Edge.table(3, LINKS, "2"), "deep(2) = RING; "
            + "deep(3) = RING");
        Edge.refused("21: RING, behind others", Edge.table(0, NUMBERS, "1") + Edge.table(1, LINKS, "0 NONE | 0 1"),
            "deep(1) = RING");
        Edge.each("21: by two ways is no RING", Edge.table(0, LINKS, ".") + Edge.table(1, LINKS, "0 0")
            + Edge.table(2, LINKS, "0 1 0 1"), "deep(1) = 2; deep(2) = 3");
        Edge.each("21: a RING that is not reached", two + Edge.table(2, LINKS, "NONE") + Edge.table(3, NUMBERS, "0"),
            "deep(2) = 1; deep(3) = 0");
    }

    private static void deepFallen() {
        String words = "21: (FALLEN places are left out.)";
        Edge.refused(words, Edge.table(0, LINKS, "-") + Edge.table(1, LINKS, "- | 0 | -") + Edge.table(2, LINKS, "1 | -")
            + Edge.table(3, NUMBERS, "-"), "deep(0) = 1; deep(1) = 2; deep(2) = 3; deep(3) = 0");
        Edge.run(words + " With what was linked there", Edge.table(0, LINKS, ".") + Edge.table(1, LINKS, "0 | 1")
            + "deep(1) = RING; fall(1, 1); deep(1) = 2; fall(1, 0); deep(1) = 1; count(3) = 1");
        Edge.run(words + " A RING is one, all the same", Edge.table(0, LINKS, "- | 0 | -") + "deep(0) = RING; total(0) = NULL");
    }

    private static void deepUnknown() {
        String story = Edge.table(0, NUMBERS, "1") + Edge.table(1, LINKS, "0 0") + "total(1); ";
        Edge.refused("21: UNKNOWN", story, "deep(2) = UNKNOWN; deep(-1) = UNKNOWN; deep(16) = UNKNOWN; deep(MAX) = UNKNOWN; "
            + "deep(MIN) = UNKNOWN; deep(NONE) = UNKNOWN");
        Edge.refused("21: what it answers changes nothing", story, "deep(1) = 1; deep(0) = 0");
    }

    // Promise 22

    private static void countTables() {
        StringBuilder script = new StringBuilder("count(0) = 0; ");
        for (int t = 0; t < 16; t++) {
            script.append(Edge.script("table(%d, %d)", t % 4, t % 13)).append(Edge.script("count(0) = %d", t + 1));
        }
        Edge.run("22: TABLES (what = 0)", script + "table(0, 0) = ROOM; count(0) = 16; table(4, 0) = OUTSIDE; "
            + "table(0, -1) = ROOM; count(0) = 16; clear() = 16; count(0) = 0; table(0, -1) = SIZE; count(0) = 0");
    }

    private static void countRows() {
        String words = "22: ROWS that stand somewhere, each once (1)";
        Edge.run(words, "count(1) = 0; table(1, 12); count(1) = 0; row(0, 0, 0); count(1) = 1; row(0, 11, 16); count(1) = 2; "
            + "row(0, 0, 3); count(1) = 2; share(0, 1, 0, 0); count(1) = 2; share(0, 11, 0, 0); count(1) = 1; "
            + "table(1, 1); share(1, 0, 0, 0); count(1) = 1; fall(0, 0); fall(0, 1); fall(0, 11); count(1) = 1; fall(1, 0); "
                + "count(1) = 0; fall(1, 0); count(1) = 0");
        Edge.run(words + ", of TABLES that were made", Edge.table(0, BITS, "1 1 | 0 1") + "turned(0); count(1) = 4; "
            + "product(0, 1); count(1) = 6; distances(0); count(1) = 8");
    }

    private static void countFallen() {
        Edge.run("22: FALLEN places (2)", "count(2) = 0; table(1, 0); count(2) = 0; table(0, 12); count(2) = 12; table(3, 1); "
            + "count(2) = 13; row(1, 0, 0); count(2) = 12; row(1, 0, 1); count(2) = 12; share(1, 11, 1, 0); count(2) = 11; "
            + "fall(1, 0); count(2) = 12; fall(1, 0) = 0; count(2) = 12; row(1, 12, 1) = INDEX; count(2) = 12; "
                + "table(1, 13) = OUTSIDE; count(2) = 12");
        Edge.run("22: FALLEN places (2), all there can be", "table(1, 12); ".repeat(16) + "count(2) = 192; "
            + "table(1, 12) = ROOM; count(2) = 192; row(15, 11, 1); count(2) = 191");
    }

    private static void countFailed() {
        String words = "22: calls that FAILED since the beginning (3)";
        String story = Edge.table(0, NUMBERS, "1 | -") + Edge.table(1, BITS, "1 | -") + Edge.table(2, LINKS, "2");
        String[] fails = {"table(0, -1) = SIZE", "row(0, 0, -1) = SIZE", "row(0, 2, 1) = INDEX", "share(0, 2, 0, 0) = INDEX",
            "share(0, 0, 0, 2) = INDEX", "share(0, 0, 0, 1) = NULL", "share(0, 0, 1, 0) = STORE",
            "fall(0, 2) = INDEX", "put(0, 2, 0, 1) = INDEX", "put(0, 1, 0, 1) = NULL", "put(0, 0, 1, 1) = INDEX",
                "get(0, 2, 0) = INDEX", "get(0, 1, 0) = NULL", "get(0, 0, 1) = INDEX", "told(0, 2, 2) = INDEX",
                "told(0, 1, 2) = NULL",
            "copy(0, 2, 0, 0, 0, 0, 1) = INDEX", "copy(0, 0, 0, 0, 2, 0, 1) = INDEX", "copy(0, 1, 0, 0, 0, 0, 1) = NULL",
                "copy(0, 0, 0, 1, 0, 0, 1) = STORE", "copy(0, 0, 0, 0, 0, 0, 2) = INDEX", "pack(1) = NULL",
            "same(0, 2, 0, 0) = INDEX", "same(0, 0, 0, 2) = INDEX", "total(0) = NULL", "total(2) = RING", "deep(2) = RING"};
        StringBuilder all = new StringBuilder(story + "count(3) = 0; ");
        for (int k = 0; k < fails.length; k++) {
            all.append(fails[k]).append("; ").append(Edge.script("count(3) = %d", k + 1));
        }
        Edge.run(words, all.toString());
        Edge.run(words + ": what is refused is none of them", story + "count(4) = OUTSIDE; count(-1) = OUTSIDE; "
            + "table(4, 1) = OUTSIDE; table(1, 13) = OUTSIDE; row(3, 0, 1) = UNKNOWN; row(0, 0, 17) = OUTSIDE; "
            + "told(0, 0, 3) = OUTSIDE; "
            + "turned(0) = STATE; product(0, 1) = STATE; distances(0) = STATE; pack(0) = STATE; word(9) = NONE; odd(0) = 0; "
                + "odd(9) = UNKNOWN; alike(0, 9) = UNKNOWN; fall(0, 1) = 0; real(0, 1, 0) = 0.0; real(9, 9, 9) = 0.0; "
                + "put(2, 0, 0, 9) = UNKNOWN; "
            + "total(9) = UNKNOWN; deep(9) = UNKNOWN; same(9, 9, 9, 9) = UNKNOWN; copy(9, 9, 9, 9, 9, 9, 9) = UNKNOWN; "
                + "share(9, 9, 9, 9) = UNKNOWN; get(9, 9, 9) = UNKNOWN; count(3) = 0");
        Edge.run(words + ": ROOM is none of them", Edge.table(0, BITS, "1") + Edge.empty(15) + "table(0, 0) = ROOM; "
            + "table(0, -1) = ROOM; turned(0) = ROOM; product(0, 0) = ROOM; distances(0) = ROOM; count(3) = 0");
        Edge.run(words + ": SPENT is one", many(Edge.row("0", 14)) + "count(3) = 0; total(2) = SPENT; count(3) = 1");
    }

    private static void countOutside() {
        Edge.refused("22: OUTSIDE", Edge.table(0, NUMBERS, "1 | -"), "count(-1) = OUTSIDE; count(4) = OUTSIDE; "
            + "count(5) = OUTSIDE; count(MAX) = OUTSIDE; count(MIN) = OUTSIDE; count(NONE) = OUTSIDE");
        Edge.refused("22: what is inside changes nothing", Edge.table(0, NUMBERS, "1 | -") + "get(0, 1, 0); ", "count(0) = 1; "
            + "count(1) = 1; count(2) = 1; count(3) = 1");
    }

    // Promise 23

    private static void clearAll() {
        String begin = "count(0) = 0; count(1) = 0; count(2) = 0; count(3) = 0; entered() = 0; word(0) = NONE; word(1) = NONE; "
            + "odd(0) = UNKNOWN; real(0, 0, 0) = 0.0; get(0, 0, 0) = UNKNOWN; clear() = 0; ";
        Edge.run("23: how many TABLES there were, of none", "clear() = 0; clear() = 0; " + begin);
        for (int t = 1; t <= 16; t++) {
            Edge.run("23: how many TABLES there were", Edge.empty(t) + Edge.script("clear() = %d", t) + begin
                + "table(3, 12) = 0");
        }
        String story = Edge.table(0, BITS, "1 1 | -") + "pack(0); row(0, 1, 2); pack(0); " + Edge.table(1, LINKS, "0 1")
            + Edge.table(2, REALS, "1500") + "total(1); deep(1); total(2); clear() = 3; ";
        Edge.run("23: All is as at the beginning", story + begin);
        Edge.run("23: All is as at the beginning: ROWS and CELLS", story + "table(3, 2) = 0; count(1) = 0; count(2) = 2; "
            + "row(0, 0, 2); " + Edge.holds(0, LINKS, "NONE NONE | -") + "put(0, 0, 0, 1) = UNKNOWN; put(0, 0, 0, 0) = 1; "
            + "table(2, 1) = 1; row(1, 0, 1); real(1, 0, 0) = 0.0; table(0, 2) = 2; pack(2) = NULL; count(3) = 2; "
            + "word(0) = NONE");
        Edge.refused("23: All is as at the beginning", "", "clear() = 0");
        Edge.run("23: of sixteen with rows at every place", rowsEverywhere() + "clear() = 16; " + begin + "table(1, 12); "
            + "row(0, 0, 16); get(0, 0, 15) = 0; count(1) = 1; count(2) = 11");
        Edge.run("23: entered() and the FAILS begin anew", Edge.table(0, LINKS, "0") + "total(0) = RING; count(3) = 1; "
            + "clear() = 1; count(3) = 0; entered() = 0; table(1, 1); total(0) = NULL; count(3) = 1; entered() = 1");
    }

    private static String rowsEverywhere() {
        StringBuilder script = new StringBuilder();
        for (int t = 0; t < 16; t++) {
            script.append(Edge.script("table(%d, 12)", t % 4));
            for (int i = 0; i < 12; i++) {
                script.append(Edge.script("row(%d, %d, 16)", t, i));
            }
            script.append(Edge.script("put(%d, 11, 15, 0)", t));
        }
        return script.toString();
    }
}
