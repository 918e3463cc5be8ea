/** The document's numbers, and what several tests ask of a bench in the same way. */
abstract class Dues {
    static final int NONE = -1, EMPTY = -2, OUTSIDE = -3, FULL = -5, GAP = -6, FAILS = -7;
    static final int BYTE = 0, SHORT = 1, INT = 2, LONG = 3, TRUTH = 4, TENTHS = 5, SIGN = 6;
    static final int FORMULA = 0, READ = 1, WRITE = 2;
    static final int LEAST = Integer.MIN_VALUE, MOST = Integer.MAX_VALUE;
    static final long LONGEST = Long.MAX_VALUE, LOWEST = Long.MIN_VALUE;

    /** The first and the last value of each sort. */
    static final long[] FIRST = {-128, -32768, -2147483648L, LOWEST, 0, LOWEST, 0};
    static final long[] LAST = {127, 32767, 2147483647L, LONGEST, 1, LONGEST, 127};
    static final String[] SORT = {"BYTE", "SHORT", "INT", "LONG", "TRUTH", "TENTHS", "SIGN"};

    static boolean isOf64(int sort) {
        return sort == LONG || sort == TENTHS;
    }

    static void due(String what, long got, long want) {
        Check.due(what, got, want);
    }

    static void due(String what, boolean got, boolean want) {
        Check.due(what, got, want);
    }

    /** The sorts of a MEMBER as ask() and offer() are told them. */
    static int sorts(int result, int... arguments) {
        int all = result;
        for (int i = 0; i < arguments.length; i++) {
            all += (arguments[i] + 1) << 3 * (i + 1);
        }
        return all;
    }

    /** The numbers of a RULE as rule() is told them. */
    static int numbers(int times, int plus) {
        return 10000 * (times + 1000) + plus + 1000;
    }

    static void dueTurning(String what, AdapterBench x, int from, int to, int cost, int... rules) {
        due(what + ": cost", x.turning(from, to, 0), cost);
        due(what + ": rules", x.turning(from, to, 1), rules.length);
        for (int i = 0; i < rules.length; i++) {
            due(what + ": rule " + i, x.turning(from, to, 2 + i), rules[i]);
        }
        due(what + ": no rule more", x.turning(from, to, 2 + rules.length), NONE);
    }

    static void dueTurn(AdapterBench x, int from, int to, long v, long want) {
        String what = "turn " + from + " to " + to + " of " + v;
        due(what, x.turn(from, to, v), 0);
        due(what + ": value", x.value(), want);
    }

    static void dueFailure(String what, AdapterBench x, int answer, int where, int rule) {
        due(what, answer, FAILS);
        due(what + ": where", x.failed(0), where);
        due(what + ": rule", x.failed(1), rule);
    }

    /** THE FIT of MEMBER 0 of FACE 0. */
    static void dueFit(String what, AdapterBench x, int shape, int cost, int member, int... places) {
        due(what + ": cost", x.fit(0, 0, shape, 0), cost);
        due(what + ": member", x.fit(0, 0, shape, 1), member);
        for (int i = 0; i < 4; i++) {
            due(what + ": place " + i, x.fit(0, 0, shape, 2 + i), i < places.length ? places[i] : NONE);
        }
    }

    static void dueWay(String what, AdapterBench x, int from, int to, int cost, int... faces) {
        due(what + ": cost", x.way(from, to, 0), cost);
        due(what + ": faces", x.way(from, to, 1), faces.length);
        for (int i = 0; i < faces.length; i++) {
            due(what + ": face " + i, x.way(from, to, 2 + i), faces[i]);
        }
        due(what + ": no face more", x.way(from, to, 2 + faces.length), NONE);
    }

    static void dueResult(String what, AdapterBench x, int answer, long want) {
        due(what, answer, 0);
        due(what + ": value", x.value(), want);
    }

    /** A bench whose FACE 0 and CLASS 0 have one MEMBER each, with an OBJECT of that CLASS. */
    static AdapterBench bench(int asked, int offered) {
        AdapterBench x = new AdapterBench();
        due("ask", x.ask(0, 7, asked), 0);
        due("offer", x.offer(0, 7, offered), 0);
        due("object", x.object(0), 0);
        return x;
    }

    /** FACES 0 .. last, each with one MEMBER of its own NAME, each NAME met by the one before it. */
    static AdapterBench chain(int last) {
        AdapterBench x = new AdapterBench();
        for (int i = 0; i <= last; i++) {
            due("ask", x.ask(i, i, sorts(LONG, LONG)), 0);
        }
        for (int i = 1; i <= last; i++) {
            due("alias", x.alias(i, i - 1, true), true);
        }
        return x;
    }

    /** The values IN HAND, from the first on. */
    static void hold(AdapterBench x, long... values) {
        for (int i = 0; i < values.length; i++) {
            due("hand " + i, x.hand(i, values[i]), 0);
        }
    }
}
