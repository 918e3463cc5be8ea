import java.util.List;

/**
 * Every call with every choice of numbers around the edges of its arguments, on a bench with room and on
 * a full one: of several refusals the first is told (as the model tells it), and a refused call, or one
 * that only asks, changes nothing that a long row of further calls could see.
 */
public final class GridTest extends Dues {
    private static final List<String> ASKING = List.of("turning", "fit", "fits", "gap", "way", "field", "value",
        "failed", "count");
    private static final List<String> DOING = List.of("turn", "call", "through");
    private static final long[] SHAPE = {LEAST, -1, 0, 1, 9, 10, MOST};
    private static final long[] ANY_SHAPE = {LEAST, -1, 0, 9, 10, 12, 19, 20, MOST};
    private static final long[] SORT_NUMBER = {LEAST, -1, 0, 4, 6, 7, MOST};
    private static final long[] MEMBER = {LEAST, -1, 0, 2, 3, 5, 6, MOST};
    private static final long[] OBJECT = {LEAST, -1, 0, 2, 3, 19, 20, MOST};
    private static final long[] NAME = {LEAST, -1, 0, 1, 99, 100, MOST};
    private static final long[] SORTS_TOLD = {LEAST, -1, 0, 6, 7, 0_10, 0_17, 0_100, 0_77776, 0_111110, MOST};
    private static final long[] VALUE = {LOWEST, FIRST[INT] - 1, FIRST[INT], -32769, -32768, -129, -128, -1, 0, 1, 2,
        127, 128, 32767, 32768, LAST[INT], LAST[INT] + 1, LONGEST};

    private final boolean full;
    private final List<Long> untouched;
    private Model model;

    private GridTest(boolean full) {
        this.full = full;
        AdapterBench bench = new AdapterBench();
        furnish(bench);
        untouched = Calls.look(bench);
        model = newModel();
        due("the model sees the same", untouched.equals(Calls.look(newModel())), true);
    }

    public static void main(String[] args) {
        new GridTest(false).all();
        new GridTest(true).all();
        Check.end("GridTest");
    }

    private void all() {
        grid("rule", new long[][] {SORT_NUMBER, SORT_NUMBER, {LEAST, 0, 1, 50, 51, MOST},
            {LEAST, -1, 0, 2000, 2001, 20002000, 20002001, 20010000, MOST}});
        grid("drop", new long[][] {{LEAST, -1, 0, 11, 12, 13, 14, 15, 31, 32, MOST}});
        grid("turning", new long[][] {SORT_NUMBER, SORT_NUMBER, {LEAST, -1, 0, 1, 2, 3, 8, MOST}});
        grid("turn", new long[][] {SORT_NUMBER, SORT_NUMBER, VALUE});
        grid("ask", new long[][] {SHAPE, NAME, SORTS_TOLD});
        grid("offer", new long[][] {SHAPE, NAME, SORTS_TOLD});
        grid("work", new long[][] {{-1, 0, 9, 10}, {-1, 0, 2, 6}, {-1, 0, 1, 2, 3}, {-2, -1, 0, 2, 3},
            {LEAST, -1001, -1000, 1000, 1001, MOST}});
        grid("times", new long[][] {SHAPE, MEMBER, {LEAST, -1, 0, 1, 3, 4, MOST}, {LEAST, -1001, -1000, 1000, 1001, MOST}});
        grid("strip", new long[][] {{0, 1}, SHAPE});
        grid("alias", new long[][] {NAME, NAME, {0, 1}});
        grid("constant", new long[][] {{LEAST, -1, 0, 1, 2, 3, 4, 5, 6, 7, MOST}, {0, 1}, VALUE});
        grid("fit", new long[][] {SHAPE, MEMBER, ANY_SHAPE, {LEAST, -1, 0, 1, 2, 5, 6, MOST}});
        grid("fits", new long[][] {SHAPE, ANY_SHAPE});
        grid("gap", new long[][] {SHAPE, ANY_SHAPE});
        grid("way", new long[][] {SHAPE, SHAPE, {LEAST, -1, 0, 1, 2, 3, 4, 12, MOST}});
        grid("object", new long[][] {SHAPE});
        grid("put", new long[][] {OBJECT, {LEAST, -1, 0, 2, 3, MOST}, {LOWEST, 0, LONGEST}});
        grid("field", new long[][] {OBJECT, {LEAST, -1, 0, 1, 2, 3, MOST}});
        grid("hand", new long[][] {{LEAST, -1, 0, 3, 4, MOST}, VALUE});
        grid("call", new long[][] {OBJECT, SHAPE, MEMBER});
        grid("through", new long[][] {OBJECT, SHAPE, SHAPE, MEMBER});
        grid("value", new long[][] {});
        grid("failed", new long[][] {{LEAST, -1, 0, 1, 2, MOST}});
        grid("count", new long[][] {{LEAST, -1, 0, 1, 2, 3, 4, 5, 6, 7, 8, MOST}});
    }

    /** Every choice of one number from each row. */
    private void grid(String name, long[][] rows) {
        Check.sentence((full ? "full: " : "with room: ") + name
            + ": REFUSED calls change nothing; of several the first in the order in which the call tells them");
        due("a row for each argument", rows.length, Calls.typesOf(name).length);
        int all = 1;
        for (long[] row : rows) {
            all *= row.length;
        }
        for (int choice = 0; choice < all && Check.wrong() < 20; choice++) {
            long[] numbers = new long[rows.length];
            int rest = choice;
            for (int i = 0; i < rows.length; i++) {
                numbers[i] = rows[i][rest % rows[i].length];
                rest /= rows[i].length;
            }
            one(name, numbers);
        }
    }

    private void one(String name, long[] numbers) {
        AdapterBench bench = new AdapterBench();
        furnish(bench);
        String what = name + java.util.Arrays.toString(numbers);
        long want = Calls.on(model, name, numbers);
        due(what, Calls.on(bench, name, numbers), want);
        if (ASKING.contains(name) || isRefused(name, want)) {
            due(what + " changed nothing", Calls.look(bench).equals(untouched), true);
            return;
        }
        if (DOING.contains(name)) {
            due(what + ": value", bench.value(), model.value());
            due(what + ": where", bench.failed(0), model.failed(0));
            due(what + ": rule", bench.failed(1), model.failed(1));
            due(what + ": done", bench.count(6), model.count(6));
            due(what + ": failed", bench.count(7), model.count(7));
        }
        model = newModel();
    }

    private static boolean isRefused(String name, long answer) {
        return name.equals("alias") ? answer == 0 : answer < 0 && answer != FAILS;
    }

    private Model newModel() {
        Model made = new Model();
        furnish(made);
        return made;
    }

    /** A bench with something of everything; the full one has no room for a RULE, a MEMBER, an alias, an OBJECT. */
    private void furnish(Object bench) {
        tellRules(bench);
        tellShapes(bench);
        for (int i = 0; i < (full ? 30 : 8); i++) {
            Calls.on(bench, "alias", i < 8 ? i % 4 : 60 + i, i < 8 ? (i + 1 + i / 4) % 6 : 10, 1);
        }
        Calls.on(bench, "constant", BYTE, 1, 5);
        Calls.on(bench, "constant", TENTHS, 1, 7);
        int[] classes = {0, 1, 9};
        for (int i = 0; i < (full ? 20 : 3); i++) {
            Calls.on(bench, "object", classes[i % 3]);
        }
        for (int i = 0; i < 9; i++) {
            Calls.on(bench, "put", i / 3, i % 3, 100 + i);
        }
        for (int i = 0; i < 4; i++) {
            Calls.on(bench, "hand", i, 1 + i % 2);
        }
        Calls.on(bench, "call", 0, 0, 0);
        Calls.on(bench, "turn", SHORT, SIGN, -1);
        Calls.on(bench, "call", 0, 1, 0);
    }

    private void tellRules(Object bench) {
        Calls.on(bench, "rule", BYTE, LONG, 2, numbers(2, 1));
        Calls.on(bench, "rule", BYTE, LONG, 1, numbers(3, 1));
        Calls.on(bench, "rule", SIGN, TRUTH, 3, numbers(0, 1));
        for (int i = 3; i < (full ? 20 : 3); i++) {
            Calls.on(bench, "rule", TRUTH, i % 3, 7, numbers(1, 0));
        }
        Calls.on(bench, "drop", 13);
    }

    private void tellShapes(Object bench) {
        int[] asked = {sorts(LONG, LONG, LONG, LONG, LONG), sorts(LONG, BYTE), sorts(TENTHS), sorts(INT, INT, SIGN),
            sorts(LONG, TRUTH), sorts(SHORT)};
        for (int i = 0; i < (full ? 6 : 3); i++) {
            Calls.on(bench, "ask", 0, i % 3, asked[i]);
            Calls.on(bench, "offer", 0, i % 4, asked[5 - i]);
        }
        Calls.on(bench, "ask", 1, 4, sorts(LONG, LONG));
        Calls.on(bench, "ask", 1, 5, sorts(LONG));
        Calls.on(bench, "ask", 2, 5, sorts(TENTHS, TENTHS));
        Calls.on(bench, "offer", 1, 0, sorts(LONG, LONG, LONG, LONG, LONG));
        Calls.on(bench, "offer", 1, 1, sorts(LONG, BYTE, TENTHS));
        Calls.on(bench, "work", 1, 0, FORMULA, 1, 9);
        for (int i = 0; i < 4; i++) {
            Calls.on(bench, "times", 1, 0, i, i == 0 ? 1000 : i == 1 ? 100 : i == 2 ? 10 : 2);
        }
        Calls.on(bench, "work", 1, 1, WRITE, 2, 0);
        Calls.on(bench, "work", 0, 1, READ, 0, 0);
    }
}
