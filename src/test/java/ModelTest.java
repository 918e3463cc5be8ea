import java.util.Arrays;
import java.util.Random;

/** Random runs of calls, the same at every start, on the class and on the brute-force model. */
public final class ModelTest {
    /** What an object is promised to be good for; the last of them look at what the run has left. */
    private static final int CALLS = 512;
    private static final int LOOKS = 120;
    private static final String[] NAMES = {"rule", "drop", "turning", "turn", "ask", "offer", "work", "times", "strip",
        "alias", "constant", "object", "fit", "fits", "gap", "way", "put", "field", "hand", "call", "through", "value",
        "failed", "count"};
    private static final long[] EDGES = {0, 1, -1, 2, 9, 10, -10, 127, 128, -128, -129, 32767, 32768, -32768, -32769,
        2147483647L, 2147483648L, -2147483648L, -2147483649L, Long.MAX_VALUE, Long.MIN_VALUE,
        Long.MAX_VALUE / 10, Long.MAX_VALUE / 10 + 1, Long.MIN_VALUE / 10, Long.MIN_VALUE / 10 - 1,
        Long.MAX_VALUE / 1000, Long.MAX_VALUE / 2 + 1, Long.MIN_VALUE / 2};

    private final AdapterBench bench = new AdapterBench();
    private final Model model = new Model();
    private final Random random;
    private final String run;
    private final int[] odds;
    private final int shapes;
    private final int names;
    private final boolean chained;
    private int used = 0;

    private ModelTest(int seed) {
        random = new Random(seed);
        run = "run " + seed + " ";
        // Only aliases that do not reach through make WAYS of many FACES: a NAME for each FACE.
        chained = seed % 3 == 0;
        shapes = chained ? 4 + random.nextInt(7) : 1 + random.nextInt(10);
        names = chained ? shapes : 1 + random.nextInt(5);
        odds = new int[NAMES.length];
        for (int i = 0; i < odds.length; i++) {
            odds[i] = 1 + random.nextInt(8);
        }
        // Wide runs of strip and drop leave nothing to look at.
        odds[1] = random.nextInt(2);
        odds[8] = random.nextInt(2);
        if (chained) {
            odds[4] = 1;
            odds[9] = 6;
            odds[15] = 8;
            odds[20] = 12;
        }
    }

    public static void main(String[] args) {
        int runs = args.length > 0 ? Integer.parseInt(args[0]) : 700;
        for (int seed = 1; seed <= runs && Check.wrong() < 20; seed++) {
            new ModelTest(seed).play();
        }
        Check.end("ModelTest");
    }

    private void play() {
        int before = Check.wrong();
        while (used < CALLS - LOOKS && Check.wrong() == before) {
            step();
        }
        while (used < CALLS && Check.wrong() == before) {
            look();
        }
    }

    private void step() {
        String name = NAMES[used < 40 ? opening() : picked()];
        both(name, numbersFor(name));
        if (name.equals("turn") || name.equals("call") || name.equals("through")) {
            both("value");
            both("failed", 0);
            both("failed", 1);
        }
    }

    /** One answer more of what the run has left, from any side. */
    private void look() {
        switch (random.nextInt(6)) {
            case 0: both("turning", random.nextInt(7), random.nextInt(7), random.nextInt(9)); break;
            case 1: both("fits", random.nextInt(10), random.nextInt(20)); break;
            case 2: both("gap", random.nextInt(10), random.nextInt(20)); break;
            case 3: both("way", random.nextInt(10), random.nextInt(10), random.nextInt(8)); break;
            case 4: both("field", random.nextInt(20), random.nextInt(3)); break;
            default: both("fit", random.nextInt(10), random.nextInt(6), random.nextInt(20), random.nextInt(6)); break;
        }
    }

    private void both(String name, long... numbers) {
        used++;
        String what = run + "call " + used + " " + name + Arrays.toString(numbers);
        Check.due(what, Calls.on(bench, name, numbers), Calls.on(model, name, numbers));
    }

    private int opening() {
        int[] kinds = {4, 5, 4, 5, 11, chained ? 9 : 4, chained ? 9 : 5};
        return kinds[random.nextInt(kinds.length)];
    }

    private int picked() {
        int all = 0;
        for (int odd : odds) {
            all += odd;
        }
        int left = random.nextInt(all);
        int kind = 0;
        while (left >= odds[kind]) {
            left -= odds[kind];
            kind++;
        }
        return kind;
    }

    private long[] numbersFor(String name) {
        switch (name) {
            case "rule": return row(sort(), sort(), odd(1 + random.nextInt(12), 0, 51), numbers());
            case "drop": return row(random.nextInt(36) - 2);
            case "turning": return row(sort(), sort(), odd(random.nextInt(8), -1, 100));
            case "turn": return row(sort(), sort(), number());
            case "ask": return asked();
            case "offer": return row(shape(), name(), sorts());
            case "work": return row(shape(), member(), odd(random.nextInt(3), -1, 3), odd(random.nextInt(4) - 1, -2, 3),
                odd(random.nextInt(2001) - 1000, -1001, 1001));
            case "times": return row(shape(), member(), odd(random.nextInt(4), -1, 4),
                odd(random.nextInt(2001) - 1000, -1001, 1001));
            case "strip": return row(random.nextInt(2), shape());
            case "alias": return row(name(), name(), random.nextInt(4) > 0 ? 1 : 0);
            case "constant": return row(sort(), random.nextInt(2), random.nextBoolean() ? random.nextInt(2) : number());
            case "object": return row(shape());
            case "fit": return row(shape(), member(), anyShape(), odd(random.nextInt(6), -1, 6));
            case "fits", "gap": return row(shape(), anyShape());
            case "way": return row(shape(), shape(), odd(random.nextInt(7), -1, 40));
            case "put": return row(object(), odd(random.nextInt(3), -1, 3), number());
            case "field": return row(object(), odd(random.nextInt(3), -1, 3));
            case "hand": return row(odd(random.nextInt(4), -1, 4), number());
            case "call": return row(object(), shape(), member());
            case "through": return row(object(), shape(), shape(), member());
            case "failed": return row(odd(random.nextInt(2), -1, 2));
            case "count": return row(odd(random.nextInt(8), -1, 8));
            default: return row();
        }
    }

    private long[] asked() {
        int face = shape();
        int name = chained && random.nextInt(8) > 0 ? Math.floorMod(face, names) : name();
        return row(face, name, sorts());
    }

    private static long[] row(long... numbers) {
        return numbers;
    }

    /** Mostly the number given; now and then one of the two beside the range, or a far one. */
    private int odd(int usual, int below, int above) {
        int die = random.nextInt(60);
        return die == 0 ? below : die == 1 ? above : die == 2 && random.nextInt(4) == 0 ? far() : usual;
    }

    private int far() {
        return random.nextBoolean() ? Integer.MAX_VALUE : Integer.MIN_VALUE;
    }

    private int sort() {
        return odd(random.nextInt(7), -1, 7);
    }

    private int shape() {
        return odd(random.nextInt(shapes), -1, 10);
    }

    private int anyShape() {
        return odd(random.nextInt(shapes) + 10 * random.nextInt(2), -1, 20);
    }

    private int name() {
        return odd(random.nextInt(names), -1, 100 - random.nextInt(2));
    }

    private int member() {
        return odd(random.nextInt(random.nextBoolean() ? 2 : 6), -1, 6);
    }

    private int object() {
        return odd(random.nextInt(random.nextBoolean() ? 2 : 20), -1, 20);
    }

    private int numbers() {
        int times = random.nextInt(3) == 0 ? random.nextInt(2001) : 998 + random.nextInt(5);
        int plus = random.nextInt(3) == 0 ? random.nextInt(2001) : 998 + random.nextInt(5);
        return odd(10000 * odd(times, 0, 2001) % 100000000 + plus, -1, 20002001);
    }

    private int sorts() {
        int sorts = random.nextInt(7);
        int arguments = odd(random.nextInt(5), 5, 6);
        int at = 8;
        for (int i = 0; i < arguments && i < 6; i++) {
            sorts += at * (random.nextInt(80) == 0 ? 0 : 1 + random.nextInt(7));
            at *= 8;
        }
        return odd(sorts, -1, 7);
    }

    private long number() {
        switch (random.nextInt(6)) {
            case 0: return random.nextLong();
            case 1: return EDGES[random.nextInt(EDGES.length)];
            case 2: return random.nextInt(300) - 150;
            case 3: return random.nextInt(20) - 5;
            default: return random.nextInt(3);
        }
    }
}
