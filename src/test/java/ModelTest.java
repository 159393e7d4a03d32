import java.lang.reflect.Method;
import java.util.ArrayList;
import java.util.Arrays;
import java.util.List;
import java.util.Map;
import java.util.Random;
import java.util.TreeMap;

/** Many runs of 512 calls, from one seed, so always the same: each answer held against Model's. */
public final class ModelTest {
    private static final int RUNS = 4000, CALLS = 512;
    private static final int[] WILD = {-1, -2, 12, 13, 16, 17, 32, 192, -1000009, -1000001, -1000011,
        Integer.MAX_VALUE, Integer.MIN_VALUE, Integer.MAX_VALUE - 1, Integer.MIN_VALUE + 1};
    private static final String[] NAMES = {"table", "row", "share", "fall", "put", "get", "real", "told", "odd", "copy",
        "turned", "product", "distances", "pack", "word", "alike", "same", "total", "entered", "deep", "count", "clear"};
    /** How often each is called, in the order of NAMES. */
    private static final int[] OFTEN = {30, 60, 40, 4, 130, 30, 20, 12, 12, 50, 20, 40, 20, 20, 12, 30, 12, 30, 8, 24, 20, 1};

    private static final Map<String, Method> METHODS = new TreeMap<>();
    private static final Map<String, Integer> SEEN = new TreeMap<>();

    private final Random random;
    private final int wildness;
    private final int onlyKind;
    private final int size;
    private int tables;

    private ModelTest(long seed) {
        random = new Random(seed);
        wildness = random.nextInt(4) * 2;
        onlyKind = random.nextInt(6);
        size = 1 + random.nextInt(4);
    }

    public static void main(String[] args) throws ReflectiveOperationException {
        for (Method m : NestTables.class.getDeclaredMethods()) {
            METHODS.put(m.getName(), m);
        }
        for (int run = 0; run < RUNS && Due.wrongSoFar() == 0; run++) {
            new ModelTest(run).run(run);
        }
        for (String needed : new String[] {"alike 0", "alike 1", "total -1000011", "total -1000015", "total -1000016", "deep 3",
            "deep -1000015", "product -1000003", "product -1000004", "copy -1000013", "copy -1000012", "real Infinity",
            "get 2147483647", "get -2147483648", "real -Infinity", "turned -1000004", "distances -1000004", "lost"}) {
            if (!SEEN.containsKey(needed)) {
                Due.tell("the runs never came to: " + needed);
            }
        }
        Due.end();
    }

    private void run(int run) throws ReflectiveOperationException {
        NestTables x = new NestTables();
        Model model = new Model();
        List<String> said = new ArrayList<>();
        for (int c = 0; c < CALLS; c++) {
            String name = nameOrSquare(anyName());
            int[] a = arguments(name);
            Object[] boxed = Arrays.stream(a).boxed().toArray();
            Number want = model.call(name, a);
            Number got = (Number) METHODS.get(name).invoke(x, boxed);
            said.add(name + Arrays.toString(a) + " " + got);
            see(name, a, got);
            int before = Due.wrongSoFar();
            Due.real("run " + run + ", call " + c + ": " + name + Arrays.toString(a), got.doubleValue(), want.doubleValue());
            if (Due.wrongSoFar() > before) {
                said.forEach(System.out::println);
                return;
            }
            tables = model.call("count", 0).intValue();
        }
    }

    private void see(String name, int[] a, Number got) {
        SEEN.merge(name + " " + got, 1, Integer::sum);
        if (name.equals("alike") && a[0] == a[1] && got.intValue() == 0) {
            SEEN.merge("lost", 1, Integer::sum);
        }
    }

    private String anyName() {
        int left = random.nextInt(Arrays.stream(OFTEN).sum());
        int at = 0;
        while (left >= OFTEN[at]) {
            left -= OFTEN[at++];
        }
        return NAMES[at];
    }

    /** In runs of reals room is kept for squares of squares: only these grow beyond all bounds. */
    private String nameOrSquare(String name) {
        boolean makes = name.equals("table") || name.equals("turned");
        return onlyKind == 2 && makes && tables > 3 ? "product" : name;
    }

    private int factor() {
        return onlyKind == 2 && random.nextInt(4) > 0 ? Math.max(tables - 1, 0) : aTable();
    }

    private boolean wild() {
        return random.nextInt(100) < wildness;
    }

    private int below(int n) {
        return wild() ? WILD[random.nextInt(WILD.length)] : random.nextInt(Math.max(n, 1));
    }

    private int aTable() {
        return below(tables);
    }

    /** Often the one length that most rows have, so that tables are even. */
    private int aLength() {
        return random.nextInt(10) == 0 ? below(17) : size;
    }

    private int aPlace() {
        return below(random.nextInt(8) == 0 ? size + 1 : size);
    }

    private int aValue() {
        int v = random.nextInt(10);
        return onlyKind == 3 && v < 9 ? aTable() : onlyKind == 2 && v > 2 ? random.nextInt()
                : v == 0 ? WILD[random.nextInt(WILD.length)] : v < 5 ? random.nextInt(3) : v < 7 ? random.nextInt() : aTable();
    }

    private int[] arguments(String name) {
        switch (name) {
            case "table": return new int[] {wild() || onlyKind > 3 ? below(4) : onlyKind, random.nextInt(8) == 0 ? below(13) : size};
            case "row": return new int[] {aTable(), aPlace(), aLength()};
            case "share":
            case "same": return new int[] {aTable(), aPlace(), aTable(), aPlace()};
            case "fall": return new int[] {aTable(), aPlace()};
            case "put": return new int[] {aTable(), aPlace(), aPlace(), aValue()};
            case "get":
            case "real": return new int[] {aTable(), aPlace(), aPlace()};
            case "told": return new int[] {aTable(), aPlace(), below(3)};
            case "copy": return new int[] {aTable(), aPlace(), aPlace(), aTable(), aPlace(), aPlace(), below(size + 1)};
            case "product": {
                int t = factor();
                return new int[] {t, random.nextInt(3) == 0 ? t : factor()};
            }
            case "alike": {
                int t = aTable();
                return new int[] {t, random.nextBoolean() ? t : aTable()};
            }
            case "word": return new int[] {below(3)};
            case "count": return new int[] {below(4)};
            case "entered":
            case "clear": return new int[] {};
            default: return new int[] {aTable()};
        }
    }
}
