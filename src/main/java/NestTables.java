import java.util.Arrays;

/** Tables of rows of four kinds, as ../shared/DOC.md promises; the code keeps to ../shared/LANGUAGE.md. */
public final class NestTables {
    public static final int UNKNOWN = -1000001, OUTSIDE = -1000002, STATE = -1000003, ROOM = -1000004, NONE = -1000009;

    private static final int BITS = 0, NUMBERS = 1, REALS = 2, LINKS = 3;

    // What a call that FAILS answers: each lies below FAILS, every other code above it.
    private static final int FAILS = -1000010;
    private static final int NULL = FAILS - 1, INDEX = FAILS - 2, STORE = FAILS - 3, SIZE = FAILS - 4;
    private static final int RING = FAILS - 5, SPENT = FAILS - 6;
    private static final int FINE = 0;

    private static final int MOST_TABLES = 16, MOST_PLACES = 12, MOST_CELLS = 16, MOST_ENTERED = 1000;
    private static final int BITS_A_WORD = 32, MOST_WORDS = MOST_PLACES * MOST_CELLS / BITS_A_WORD;
    private static final int NOT_EVEN = -1, NO_WAY = -1;
    private static final int NO_NUMBER = 1;

    private final Table[] tables = new Table[MOST_TABLES];
    // As many as there are places: a row that stands nowhere is used again, so a long run makes no more of them.
    private final Row[] pool = new Row[MOST_TABLES * MOST_PLACES];
    private final int[] words = new int[MOST_WORDS];
    private int tableCount;
    private int wordCount;
    private int enteredCount;
    private int failedCount;
    // What ended the search of total() or deep() that is under way.
    private int searchFault;

    /** Which of the two arrays counts is settled by the kind of the tables that the row stands in. */
    private static final class Row {
        // Of reals: NO_NUMBER where what stands is no number, since no double here may be NaN; its real is 0.0 then.
        final int[] cells = new int[MOST_CELLS];
        final double[] reals = new double[MOST_CELLS];
        int length;
        int standing;
    }

    private static final class Table {
        final Row[] rows = new Row[MOST_PLACES];
        int kind;
        int places;
        boolean busy;
        int depth;
    }

    public NestTables() {
        for (int t = 0; t < MOST_TABLES; t++) {
            tables[t] = new Table();
        }
    }

    public int table(int kind, int n) {
        if (kind < BITS || kind > LINKS || n > MOST_PLACES) {
            return OUTSIDE;
        }
        if (isFull()) {
            return ROOM;
        }
        if (n < 0) {
            return refuse(SIZE);
        }
        return addTable(kind, n);
    }

    public int row(int table, int i, int cells) {
        if (!isKnown(table)) {
            return UNKNOWN;
        }
        if (cells > MOST_CELLS) {
            return OUTSIDE;
        }
        if (cells < 0) {
            return refuse(SIZE);
        }
        if (!hasPlace(table, i)) {
            return refuse(INDEX);
        }
        newRow(tables[table], i, cells);
        return 1;
    }

    public int share(int table, int i, int other, int j) {
        int fault = placesFault(table, i, other, j);
        if (fault != FINE) {
            return refuse(fault);
        }
        Row row = tables[other].rows[j];
        if (row == null) {
            return refuse(NULL);
        }
        if (tables[table].kind != tables[other].kind) {
            return refuse(STORE);
        }
        leave(tables[table], i);
        stand(tables[table], i, row);
        return 1;
    }

    public int fall(int table, int i) {
        int fault = placeFault(table, i);
        if (fault != FINE) {
            return refuse(fault);
        }
        return leave(tables[table], i) ? 1 : 0;
    }

    public int put(int table, int i, int j, int v) {
        if (!isKnown(table) || !canHold(tables[table].kind, v)) {
            return UNKNOWN;
        }
        int fault = cellFault(table, i, j);
        if (fault != FINE) {
            return refuse(fault);
        }
        setCell(tables[table].kind, tables[table].rows[i], j, v);
        return 1;
    }

    public int get(int table, int i, int j) {
        int fault = cellFault(table, i, j);
        if (fault != FINE) {
            return refuse(fault);
        }
        return cellAsInt(tables[table].kind, tables[table].rows[i], j);
    }

    public double real(int table, int i, int j) {
        if (cellFault(table, i, j) != FINE || tables[table].kind != REALS) {
            return 0.0;
        }
        return tables[table].rows[i].reals[j];
    }

    public int told(int table, int i, int what) {
        if (!isKnown(table)) {
            return UNKNOWN;
        }
        if (what < 0 || what > 2) {
            return OUTSIDE;
        }
        if (what == 0) {
            return tables[table].kind;
        }
        if (what == 1) {
            return tables[table].places;
        }
        int fault = rowFault(table, i);
        return fault != FINE ? refuse(fault) : tables[table].rows[i].length;
    }

    public int odd(int table) {
        return isKnown(table) ? firstOdd(tables[table]) : UNKNOWN;
    }

    public int copy(int table, int i, int a, int other, int j, int b, int n) {
        int fault = placesFault(table, i, other, j);
        if (fault != FINE) {
            return refuse(fault);
        }
        Row from = tables[table].rows[i];
        Row to = tables[other].rows[j];
        if (from == null || to == null) {
            return refuse(NULL);
        }
        if (tables[table].kind != tables[other].kind) {
            return refuse(STORE);
        }
        if (!isPiece(from, a, n) || !isPiece(to, b, n)) {
            return refuse(INDEX);
        }
        copyCells(from, a, to, b, n);
        return 1;
    }

    public int turned(int table) {
        if (!isKnown(table)) {
            return UNKNOWN;
        }
        Table from = tables[table];
        int wide = wideOf(from);
        if (wide == NOT_EVEN || wide > MOST_PLACES) {
            return STATE;
        }
        if (isFull()) {
            return ROOM;
        }
        int number = addTable(from.kind, wide);
        for (int x = 0; x < wide; x++) {
            Row row = newRow(tables[number], x, from.places);
            for (int y = 0; y < from.places; y++) {
                copyCells(from.rows[y], x, row, y, 1);
            }
        }
        return number;
    }

    public int product(int table, int other) {
        if (!isKnown(table) || !isKnown(other)) {
            return UNKNOWN;
        }
        Table first = tables[table];
        Table second = tables[other];
        if (!canMultiply(first, second)) {
            return STATE;
        }
        if (isFull()) {
            return ROOM;
        }
        int wide = wideOf(second);
        int number = addTable(first.kind, first.places);
        for (int x = 0; x < first.places; x++) {
            fillProduct(newRow(tables[number], x, wide), first.rows[x], second);
        }
        return number;
    }

    public int distances(int table) {
        if (!isKnown(table)) {
            return UNKNOWN;
        }
        Table steps = tables[table];
        if (steps.kind != BITS || firstOdd(steps) != NONE) {
            return STATE;
        }
        if (isFull()) {
            return ROOM;
        }
        int number = addTable(NUMBERS, steps.places);
        for (int x = 0; x < steps.places; x++) {
            fillDistances(newRow(tables[number], x, steps.places), x, steps);
        }
        return number;
    }

    public int pack(int table) {
        if (!isKnown(table)) {
            return UNKNOWN;
        }
        Table from = tables[table];
        if (from.kind != BITS) {
            return STATE;
        }
        if (countFallen(from) > 0) {
            return refuse(NULL);
        }
        wordCount = packRows(from);
        return wordCount;
    }

    public int word(int i) {
        return i >= 0 && i < wordCount ? words[i] : NONE;
    }

    public int alike(int table, int other) {
        if (!isKnown(table) || !isKnown(other)) {
            return UNKNOWN;
        }
        return areAlike(tables[table], tables[other]) ? 1 : 0;
    }

    public int same(int table, int i, int other, int j) {
        int fault = placesFault(table, i, other, j);
        if (fault != FINE) {
            return refuse(fault);
        }
        Row row = tables[table].rows[i];
        return row != null && row == tables[other].rows[j] ? 1 : 0;
    }

    public int total(int table) {
        if (!isKnown(table)) {
            return UNKNOWN;
        }
        enteredCount = 0;
        searchFault = FINE;
        int sum = tableTotal(tables[table], 1);
        return searchFault == FINE ? sum : refuse(searchFault);
    }

    public int entered() {
        return enteredCount;
    }

    public int deep(int table) {
        if (!isKnown(table)) {
            return UNKNOWN;
        }
        for (int t = 0; t < tableCount; t++) {
            tables[t].depth = NONE;
        }
        searchFault = FINE;
        int depth = tableDepth(tables[table], 1);
        return searchFault == FINE ? depth : refuse(searchFault);
    }

    public int count(int what) {
        switch (what) {
            case 0:
                return tableCount;
            case 1:
                return countRows();
            case 2:
                return countAllFallen();
            case 3:
                return failedCount;
            default:
                return OUTSIDE;
        }
    }

    public int clear() {
        int before = tableCount;
        for (int t = 0; t < before; t++) {
            dropRows(tables[t]);
        }
        tableCount = 0;
        wordCount = 0;
        enteredCount = 0;
        failedCount = 0;
        return before;
    }

    // Refusals

    private int refuse(int code) {
        if (code < FAILS) {
            failedCount++;
        }
        return code;
    }

    private boolean isKnown(int table) {
        return table >= 0 && table < tableCount;
    }

    private boolean hasPlace(int table, int i) {
        return i >= 0 && i < tables[table].places;
    }

    private int placeFault(int table, int i) {
        if (!isKnown(table)) {
            return UNKNOWN;
        }
        return hasPlace(table, i) ? FINE : INDEX;
    }

    private int placesFault(int table, int i, int other, int j) {
        if (!isKnown(table) || !isKnown(other)) {
            return UNKNOWN;
        }
        return hasPlace(table, i) && hasPlace(other, j) ? FINE : INDEX;
    }

    private int rowFault(int table, int i) {
        int fault = placeFault(table, i);
        if (fault != FINE) {
            return fault;
        }
        return tables[table].rows[i] == null ? NULL : FINE;
    }

    private int cellFault(int table, int i, int j) {
        int fault = rowFault(table, i);
        if (fault != FINE) {
            return fault;
        }
        return j >= 0 && j < tables[table].rows[i].length ? FINE : INDEX;
    }

    // Tables and the rows that stand in them

    private boolean isFull() {
        return tableCount >= MOST_TABLES;
    }

    private int addTable(int kind, int places) {
        tables[tableCount].kind = kind;
        tables[tableCount].places = places;
        return tableCount++;
    }

    private static void stand(Table table, int i, Row row) {
        row.standing++;
        table.rows[i] = row;
    }

    private static boolean leave(Table table, int i) {
        Row row = table.rows[i];
        if (row == null) {
            return false;
        }
        row.standing--;
        table.rows[i] = null;
        return true;
    }

    private static void dropRows(Table table) {
        for (int i = 0; i < table.places; i++) {
            leave(table, i);
        }
    }

    private Row newRow(Table table, int i, int length) {
        // The place is left first: then a row of the pool is free even if there was one at every place.
        leave(table, i);
        Row row = freeRow();
        row.length = length;
        Arrays.fill(row.cells, table.kind == LINKS ? NONE : 0);
        Arrays.fill(row.reals, 0.0);
        stand(table, i, row);
        return row;
    }

    private Row freeRow() {
        int r = 0;
        while (r < pool.length - 1 && pool[r] != null && pool[r].standing > 0) {
            r++;
        }
        if (pool[r] == null) {
            pool[r] = new Row();
        }
        return pool[r];
    }

    private int countRows() {
        int count = 0;
        for (int r = 0; r < pool.length; r++) {
            if (pool[r] != null && pool[r].standing > 0) {
                count++;
            }
        }
        return count;
    }

    private static int countFallen(Table table) {
        int count = 0;
        for (int i = 0; i < table.places; i++) {
            if (table.rows[i] == null) {
                count++;
            }
        }
        return count;
    }

    private int countAllFallen() {
        int count = 0;
        for (int t = 0; t < tableCount; t++) {
            count += countFallen(tables[t]);
        }
        return count;
    }

    private static int firstOdd(Table table) {
        for (int i = 0; i < table.places; i++) {
            Row row = table.rows[i];
            if (row == null || row.length != table.places) {
                return i;
            }
        }
        return NONE;
    }

    private static int wideOf(Table table) {
        int wide = 0;
        for (int i = 0; i < table.places; i++) {
            Row row = table.rows[i];
            if (row == null || i > 0 && row.length != wide) {
                return NOT_EVEN;
            }
            wide = row.length;
        }
        return wide;
    }

    // Cells

    private boolean canHold(int kind, int v) {
        return kind != LINKS || v == NONE || isKnown(v);
    }

    private static void setCell(int kind, Row row, int j, int v) {
        if (kind == BITS) {
            row.cells[j] = v != 0 ? 1 : 0;
        } else if (kind == REALS) {
            row.cells[j] = 0;
            row.reals[j] = v / 1000.0;
        } else {
            row.cells[j] = v;
        }
    }

    private static int cellAsInt(int kind, Row row, int j) {
        return kind == REALS ? (int) row.reals[j] : row.cells[j];
    }

    private static boolean isPiece(Row row, int start, int n) {
        // Not start + n, which could wrap.
        return n >= 0 && start >= 0 && start <= row.length - n;
    }

    private static void copyCells(Row from, int a, Row to, int b, int n) {
        System.arraycopy(from.cells, a, to.cells, b, n);
        System.arraycopy(from.reals, a, to.reals, b, n);
    }

    private static boolean areAlike(Table one, Table two) {
        if (one.kind != two.kind || one.places != two.places) {
            return false;
        }
        for (int i = 0; i < one.places; i++) {
            if (!areRowsAlike(one.rows[i], two.rows[i], one.kind)) {
                return false;
            }
        }
        return true;
    }

    private static boolean areRowsAlike(Row one, Row two, int kind) {
        if (one == null || two == null) {
            return one == two;
        }
        if (one.length != two.length) {
            return false;
        }
        for (int j = 0; j < one.length; j++) {
            if (!areCellsAlike(one, two, j, kind)) {
                return false;
            }
        }
        return true;
    }

    private static boolean areCellsAlike(Row one, Row two, int j, int kind) {
        if (kind != REALS) {
            return one.cells[j] == two.cells[j];
        }
        // What is no number is == to nothing, not even to itself.
        return one.cells[j] != NO_NUMBER && two.cells[j] != NO_NUMBER && one.reals[j] == two.reals[j];
    }

    // Products, distances, words

    private static boolean canMultiply(Table first, Table second) {
        if (first.kind == LINKS || first.kind != second.kind) {
            return false;
        }
        int wide = wideOf(first);
        return wide != NOT_EVEN && wideOf(second) != NOT_EVEN && wide == second.places;
    }

    private static void fillProduct(Row into, Row left, Table second) {
        for (int y = 0; y < into.length; y++) {
            for (int k = 0; k < second.places; k++) {
                if (second.kind == REALS) {
                    addRealProduct(into, y, left, k, second.rows[k]);
                } else if (second.kind == NUMBERS) {
                    into.cells[y] += left.cells[k] * second.rows[k].cells[y];
                } else {
                    into.cells[y] |= left.cells[k] & second.rows[k].cells[y];
                }
            }
        }
    }

    private static void addRealProduct(Row into, int y, Row left, int k, Row right) {
        boolean lost = into.cells[y] == NO_NUMBER || left.cells[k] == NO_NUMBER || right.cells[y] == NO_NUMBER;
        double a = left.reals[k];
        double b = right.reals[y];
        if (lost || isEndless(a) && b == 0.0 || a == 0.0 && isEndless(b)) {
            loseNumber(into, y);
            return;
        }
        double more = a * b;
        double sum = into.reals[y];
        if (isEndless(more) && isEndless(sum) && more != sum) {
            loseNumber(into, y);
            return;
        }
        into.reals[y] = sum + more;
    }

    private static void loseNumber(Row row, int j) {
        row.cells[j] = NO_NUMBER;
        row.reals[j] = 0.0;
    }

    private static boolean isEndless(double x) {
        // The greatest double that has an end.
        return x > 1.7976931348623157E308 || x < -1.7976931348623157E308;
    }

    private static void fillDistances(Row away, int start, Table steps) {
        for (int y = 0; y < away.length; y++) {
            away.cells[y] = y == start ? 0 : NO_WAY;
        }
        for (int far = 0; far < steps.places; far++) {
            for (int x = 0; x < steps.places; x++) {
                if (away.cells[x] == far) {
                    stepFrom(away, steps.rows[x], far + 1);
                }
            }
        }
    }

    private static void stepFrom(Row away, Row steps, int far) {
        for (int y = 0; y < away.length; y++) {
            if (steps.cells[y] == 1 && away.cells[y] == NO_WAY) {
                away.cells[y] = far;
            }
        }
    }

    private int packRows(Table from) {
        Arrays.fill(words, 0);
        int bits = 0;
        for (int i = 0; i < from.places; i++) {
            Row row = from.rows[i];
            for (int j = 0; j < row.length; j++) {
                words[bits / BITS_A_WORD] |= row.cells[j] << bits % BITS_A_WORD;
                bits++;
            }
        }
        return (bits + BITS_A_WORD - 1) / BITS_A_WORD;
    }

    // Searches through links

    private int tableTotal(Table table, int level) {
        table.busy = true;
        enteredCount++;
        int sum = 0;
        for (int i = 0; i < table.places && searchFault == FINE; i++) {
            Row row = table.rows[i];
            if (row == null) {
                searchFault = NULL;
            } else {
                sum += rowTotal(table.kind, row, level);
            }
        }
        table.busy = false;
        return sum;
    }

    private int rowTotal(int kind, Row row, int level) {
        int sum = 0;
        for (int j = 0; j < row.length && searchFault == FINE; j++) {
            sum += kind == LINKS ? linkTotal(row.cells[j], level) : cellAsInt(kind, row, j);
        }
        return sum;
    }

    private int linkTotal(int link, int level) {
        if (!isKnown(link)) {
            return 0;
        }
        if (closesRing(link, level)) {
            searchFault = RING;
            return 0;
        }
        if (enteredCount >= MOST_ENTERED) {
            searchFault = SPENT;
            return 0;
        }
        return tableTotal(tables[link], level + 1);
    }

    private boolean closesRing(int link, int level) {
        // With as many levels open as there can be tables, each of them is busy: the level is there to be seen.
        return tables[link].busy || level >= MOST_TABLES;
    }

    private int tableDepth(Table table, int level) {
        if (table.kind != LINKS) {
            return 0;
        }
        // A table is searched once a call: over all ways to it the search would not end in time.
        if (table.depth != NONE) {
            return table.depth;
        }
        table.busy = true;
        int deepest = 0;
        for (int i = 0; i < table.places && searchFault == FINE; i++) {
            Row row = table.rows[i];
            if (row != null) {
                deepest = Math.max(deepest, rowDepth(row, level));
            }
        }
        table.busy = false;
        table.depth = deepest + 1;
        return table.depth;
    }

    private int rowDepth(Row row, int level) {
        int deepest = 0;
        for (int j = 0; j < row.length && searchFault == FINE; j++) {
            int link = row.cells[j];
            if (isKnown(link)) {
                deepest = Math.max(deepest, linkDepth(link, level));
            }
        }
        return deepest;
    }

    private int linkDepth(int link, int level) {
        if (closesRing(link, level)) {
            searchFault = RING;
            return 0;
        }
        return tableDepth(tables[link], level + 1);
    }
}
