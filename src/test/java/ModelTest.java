import java.util.Random;

/** Random runs of calls, the same at every start, on the class and on the brute-force model. */
public final class ModelTest {
    private static final int CALLS = 512;
    private static final long[] EDGES = {0, 1, -1, 2, 9, 10, -10, 127, 128, -128, -129, 32767, 32768, -32768, -32769,
        2147483647L, 2147483648L, -2147483648L, -2147483649L, Long.MAX_VALUE, Long.MIN_VALUE,
        Long.MAX_VALUE / 10, Long.MAX_VALUE / 10 + 1, Long.MIN_VALUE / 10, Long.MIN_VALUE / 10 - 1,
        Long.MAX_VALUE / 1000, Long.MAX_VALUE / 2 + 1, Long.MIN_VALUE / 2};

    private final AdapterBench bench = new AdapterBench();
    private final Model model = new Model();
    private final Random random;
    private final String run;
    private final int[] odds;
    private final int shapes;
    private final int names;
    private final boolean chained;
    private String lastCall = "";

    private ModelTest(int seed) {
        random = new Random(seed);
        run = "run " + seed + " ";
        // Only aliases that do not reach through make WAYS of many FACES: a NAME for each FACE.
        chained = seed % 3 == 0;
        shapes = chained ? 4 + random.nextInt(7) : 1 + random.nextInt(10);
        names = chained ? shapes : 1 + random.nextInt(5);
        odds = new int[24];
        for (int i = 0; i < odds.length; i++) {
            odds[i] = 1 + random.nextInt(8);
        }
        // Wide runs of strip and drop leave nothing to look at.
        odds[1] = random.nextInt(2);
        odds[8] = random.nextInt(2);
        if (chained) {
            odds[4] = 1;
            odds[9] = 6;
            odds[15] = 8;
            odds[20] = 12;
        }
    }

    public static void main(String[] args) {
        int runs = args.length > 0 ? Integer.parseInt(args[0]) : 400;
        for (int seed = 1; seed <= runs && Check.wrong() < 20; seed++) {
            new ModelTest(seed).play();
        }
        Check.end("ModelTest");
    }

    private void play() {
        int before = Check.wrong();
        for (int i = 0; i < CALLS && Check.wrong() == before; i++) {
            step(i);
        }
        if (Check.wrong() == before) {
            sweep();
        }
    }

    /** What the run left, looked at from all sides. */
    private void sweep() {
        for (int i = 0; i < 7 * 7 * 9; i++) {
            int a = i / 63, b = i / 9 % 7, c = i % 9;
            Check.due(run + "turning " + a + " " + b + " " + c, bench.turning(a, b, c), model.turning(a, b, c));
        }
        for (int i = 0; i < 10 * 20; i++) {
            int a = i / 20, b = i % 20;
            Check.due(run + "fits " + a + " " + b, bench.fits(a, b), model.fits(a, b));
            Check.due(run + "gap " + a + " " + b, bench.gap(a, b), model.gap(a, b));
            for (int c = 0; c < 36; c++) {
                Check.due(run + "fit " + a + " " + c + " " + b, bench.fit(a, c / 6, b, c % 6), model.fit(a, c / 6, b, c % 6));
            }
        }
        for (int i = 0; i < 10 * 10 * 4; i++) {
            int a = i / 40, b = i / 4 % 10, c = i % 4 * 2 + random.nextInt(2);
            Check.due(run + "way " + a + " " + b + " " + c, bench.way(a, b, c), model.way(a, b, c));
        }
        for (int i = 0; i < 20 * 3; i++) {
            Check.due(run + "field " + i, bench.field(i / 3, i % 3), model.field(i / 3, i % 3));
        }
    }

    private void step(int i) {
        int kind = i < 40 ? opening() : picked();
        long[] both = kind < 12 ? told(kind) : asked(kind);
        Check.due(run + "call " + i + " " + lastCall, both[0], both[1]);
        Check.due(run + "value behind call " + i + " " + lastCall, bench.value(), model.value());
        Check.due(run + "failed(0) behind call " + i + " " + lastCall, bench.failed(0), model.failed(0));
        Check.due(run + "failed(1) behind call " + i + " " + lastCall, bench.failed(1), model.failed(1));
    }

    private int opening() {
        int[] kinds = {4, 5, 4, 5, 11, chained ? 9 : 4, chained ? 9 : 5};
        return kinds[random.nextInt(kinds.length)];
    }

    private int picked() {
        int all = 0;
        for (int odd : odds) {
            all += odd;
        }
        int left = random.nextInt(all);
        int kind = 0;
        while (left >= odds[kind]) {
            left -= odds[kind];
            kind++;
        }
        return kind;
    }

    private long[] told(int kind) {
        switch (kind) {
            case 0: {
                int a = sort(), b = sort(), c = odd(1 + random.nextInt(12), 0, 51), d = numbers();
                say("rule", a, b, c, d);
                return pair(bench.rule(a, b, c, d), model.rule(a, b, c, d));
            }
            case 1: {
                int a = random.nextInt(36) - 2;
                say("drop", a);
                return pair(bench.drop(a), model.drop(a));
            }
            case 2: {
                int a = sort(), b = sort(), c = odd(random.nextInt(8), -1, 100);
                say("turning", a, b, c);
                return pair(bench.turning(a, b, c), model.turning(a, b, c));
            }
            case 3: {
                int a = sort(), b = sort();
                long v = number();
                say("turn", a, b, v);
                return pair(bench.turn(a, b, v), model.turn(a, b, v));
            }
            case 4: {
                int a = shape(), b = chained && random.nextInt(8) > 0 ? Math.floorMod(a, names) : name(), c = sorts();
                say("ask", a, b, c);
                return pair(bench.ask(a, b, c), model.ask(a, b, c));
            }
            case 5: {
                int a = shape(), b = name(), c = sorts();
                say("offer", a, b, c);
                return pair(bench.offer(a, b, c), model.offer(a, b, c));
            }
            case 6: {
                int a = shape(), b = member(), c = odd(random.nextInt(3), -1, 3);
                int d = odd(random.nextInt(4) - 1, -2, 3), e = odd(random.nextInt(2001) - 1000, -1001, 1001);
                say("work", a, b, c, d, e);
                return pair(bench.work(a, b, c, d, e), model.work(a, b, c, d, e));
            }
            case 7: {
                int a = shape(), b = member(), c = odd(random.nextInt(4), -1, 4);
                int d = odd(random.nextInt(2001) - 1000, -1001, 1001);
                say("times", a, b, c, d);
                return pair(bench.times(a, b, c, d), model.times(a, b, c, d));
            }
            case 8: {
                boolean a = random.nextBoolean();
                int b = shape();
                say(a ? "strip face" : "strip class", b);
                return pair(bench.strip(a, b), model.strip(a, b));
            }
            case 9: {
                int a = name(), b = name();
                boolean c = random.nextInt(4) > 0;
                say(c ? "alias on" : "alias off", a, b);
                return pair(bench.alias(a, b, c) ? 1 : 0, model.alias(a, b, c) ? 1 : 0);
            }
            case 10: {
                int a = sort();
                boolean b = random.nextBoolean();
                long v = random.nextBoolean() ? random.nextInt(2) : number();
                say(b ? "constant is" : "constant not", a, v);
                return pair(bench.constant(a, b, v), model.constant(a, b, v));
            }
            default: {
                int a = shape();
                say("object", a);
                return pair(bench.object(a), model.object(a));
            }
        }
    }

    private long[] asked(int kind) {
        switch (kind) {
            case 12: {
                int a = shape(), b = member(), c = anyShape(), d = odd(random.nextInt(6), -1, 6);
                say("fit", a, b, c, d);
                return pair(bench.fit(a, b, c, d), model.fit(a, b, c, d));
            }
            case 13: {
                int a = shape(), b = anyShape();
                say("fits", a, b);
                return pair(bench.fits(a, b), model.fits(a, b));
            }
            case 14: {
                int a = shape(), b = anyShape();
                say("gap", a, b);
                return pair(bench.gap(a, b), model.gap(a, b));
            }
            case 15: {
                int a = shape(), b = shape(), c = odd(random.nextInt(7), -1, 40);
                say("way", a, b, c);
                return pair(bench.way(a, b, c), model.way(a, b, c));
            }
            case 16: {
                int a = object(), b = odd(random.nextInt(3), -1, 3);
                long v = number();
                say("put", a, b, v);
                return pair(bench.put(a, b, v), model.put(a, b, v));
            }
            case 17: {
                int a = object(), b = odd(random.nextInt(3), -1, 3);
                say("field", a, b);
                return pair(bench.field(a, b), model.field(a, b));
            }
            case 18: {
                int a = odd(random.nextInt(4), -1, 4);
                long v = number();
                say("hand", a, v);
                return pair(bench.hand(a, v), model.hand(a, v));
            }
            case 19: {
                int a = object(), b = shape(), c = member();
                say("call", a, b, c);
                return pair(bench.call(a, b, c), model.call(a, b, c));
            }
            case 20: {
                int a = object(), b = shape(), c = shape(), d = member();
                say("through", a, b, c, d);
                return pair(bench.through(a, b, c, d), model.through(a, b, c, d));
            }
            case 21:
                say("value");
                return pair(bench.value(), model.value());
            case 22: {
                int a = odd(random.nextInt(2), -1, 2);
                say("failed", a);
                return pair(bench.failed(a), model.failed(a));
            }
            default: {
                int a = odd(random.nextInt(8), -1, 8);
                say("count", a);
                return pair(bench.count(a), model.count(a));
            }
        }
    }

    private static long[] pair(long got, long want) {
        return new long[] {got, want};
    }

    private void say(String call, long... numbers) {
        StringBuilder text = new StringBuilder(call).append('(');
        for (int i = 0; i < numbers.length; i++) {
            text.append(i == 0 ? "" : ", ").append(numbers[i]);
        }
        lastCall = text.append(')').toString();
    }

    /** Mostly the number given; now and then one of the two beside the range, or a far one. */
    private int odd(int usual, int below, int above) {
        int die = random.nextInt(60);
        return die == 0 ? below : die == 1 ? above : die == 2 && random.nextInt(4) == 0 ? far() : usual;
    }

    private int far() {
        return random.nextBoolean() ? Integer.MAX_VALUE : Integer.MIN_VALUE;
    }

    private int sort() {
        return odd(random.nextInt(7), -1, 7);
    }

    private int shape() {
        return odd(random.nextInt(shapes), -1, 10);
    }

    private int anyShape() {
        return odd(random.nextInt(shapes) + 10 * random.nextInt(2), -1, 20);
    }

    private int name() {
        return odd(random.nextInt(names), -1, 100 - random.nextInt(2));
    }

    private int member() {
        return odd(random.nextInt(random.nextBoolean() ? 2 : 6), -1, 6);
    }

    private int object() {
        return odd(random.nextInt(random.nextBoolean() ? 2 : 20), -1, 20);
    }

    private int numbers() {
        int times = random.nextInt(3) == 0 ? random.nextInt(2001) : 998 + random.nextInt(5);
        int plus = random.nextInt(3) == 0 ? random.nextInt(2001) : 998 + random.nextInt(5);
        return odd(10000 * odd(times, 0, 2001) % 100000000 + plus, -1, 20002001);
    }

    private int sorts() {
        int sorts = random.nextInt(7);
        int arguments = odd(random.nextInt(5), 5, 6);
        int at = 8;
        for (int i = 0; i < arguments && i < 6; i++) {
            sorts += at * (random.nextInt(80) == 0 ? 0 : 1 + random.nextInt(7));
            at *= 8;
        }
        return odd(sorts, -1, 7);
    }

    private long number() {
        switch (random.nextInt(6)) {
            case 0: return random.nextLong();
            case 1: return EDGES[random.nextInt(EDGES.length)];
            case 2: return random.nextInt(300) - 150;
            case 3: return random.nextInt(20) - 5;
            default: return random.nextInt(3);
        }
    }
}
