/** For each promise of the document what it says, at its edges, and with wrong numbers; worked out by hand. */
public final class PromisesTest extends Dues {
    private PromisesTest() {
    }

    public static void main(String[] args) {
        newBench();
        rule();
        ruleIsFull();
        drop();
        turning();
        turningTies();
        turn();
        turnByBuiltIn();
        turnByTold();
        ask();
        offer();
        work();
        times();
        strip();
        alias();
        constant();
        fitCosts();
        fitTies();
        fitRefusals();
        fits();
        gap();
        way();
        wayTies();
        object();
        put();
        field();
        hand();
        call();
        callFormula();
        callFormulaAtEdges();
        callReadAndWrite();
        callOrder();
        through();
        throughOrder();
        value();
        failed();
        count();
        toldAtOnce();
        Check.end("PromisesTest");
    }

    // ---- promise 1

    private static void newBench() {
        AdapterBench x = new AdapterBench();
        int[] counts = {12, 0, 0, 0, 0, 0, 0, 0};
        for (int i = 0; i < counts.length; i++) {
            due("new: count " + i, x.count(i), counts[i]);
        }
        for (int i = 0; i < 10; i++) {
            due("new: class " + i, x.strip(false, i), 0);
            due("new: face " + i, x.strip(true, i), 0);
        }
        AdapterBench y = new AdapterBench();
        dueWay("new: empty faces fit", y, 3, 8, 0, 3, 8);
        due("new: value", x.value(), 0);
        due("new: failed", x.failed(0), NONE);
        due("new: object 0", x.put(0, 0, 1), EMPTY);
        int[][] rules = {{BYTE, SHORT, 1}, {SHORT, INT, 1}, {INT, LONG, 1}, {LONG, INT, 5}, {INT, SHORT, 5},
            {SHORT, BYTE, 5}, {TRUTH, BYTE, 2}, {INT, TRUTH, 6}, {LONG, TENTHS, 3}, {TENTHS, LONG, 6},
            {SIGN, SHORT, 2}, {SHORT, SIGN, 5}};
        for (int i = 0; i < rules.length; i++) {
            dueTurning("new: rule " + i, x, rules[i][0], rules[i][1], rules[i][2], i);
        }
    }

    // ---- promise 2

    private static void rule() {
        AdapterBench x = new AdapterBench();
        due("rule from -1", x.rule(-1, 0, 1, 0), OUTSIDE);
        due("rule from 7", x.rule(7, 0, 1, 0), OUTSIDE);
        due("rule to -1", x.rule(0, -1, 1, 0), OUTSIDE);
        due("rule to 7", x.rule(0, 7, 1, 0), OUTSIDE);
        due("rule to the same", x.rule(3, 3, 1, 0), OUTSIDE);
        due("rule of cost 0", x.rule(0, 6, 0, 0), OUTSIDE);
        due("rule of cost 51", x.rule(0, 6, 51, 0), OUTSIDE);
        due("rule of numbers -1", x.rule(0, 6, 1, -1), OUTSIDE);
        due("rule of plus 2001", x.rule(0, 6, 1, 2001), OUTSIDE);
        due("rule of plus 9999", x.rule(0, 6, 1, 10009999), OUTSIDE);
        due("rule of times 2001", x.rule(0, 6, 1, 20010000), OUTSIDE);
        due("rule of the most and 1", x.rule(0, 6, 1, 20002001), OUTSIDE);
        due("rule of far numbers", x.rule(LEAST, MOST, LEAST, MOST), OUTSIDE);
        due("rule numbers far", x.rule(0, 6, 1, MOST), OUTSIDE);
        due("rule refused: count", x.count(0), 12);
        due("rule of least numbers", x.rule(0, 6, 50, 0), 12);
        due("rule of most numbers", x.rule(1, 6, 1, 20002000), 13);
        due("rules: count", x.count(0), 14);
        due("rule's cost", x.turning(1, 6, 0), 1);
    }

    private static void ruleIsFull() {
        AdapterBench x = new AdapterBench();
        for (int i = 0; i < 20; i++) {
            due("rule " + i, x.rule(0, 1, 50, 0), 12 + i);
        }
        due("rule 20", x.rule(0, 1, 50, 0), FULL);
        due("outside ahead of full", x.rule(0, 1, 51, 0), OUTSIDE);
        due("drop one beyond", x.drop(32), EMPTY);
        due("drop two beyond", x.drop(33), EMPTY);
        due("drop the last", x.drop(31), 1);
        due("full with a dropped one", x.rule(0, 1, 50, 0), FULL);
        due("count when full", x.count(0), 31);
    }

    // ---- promise 3

    private static void drop() {
        AdapterBench x = new AdapterBench();
        due("rule", x.rule(LONG, INT, 1, numbers(1, 0)), 12);
        due("rule", x.rule(LONG, INT, 2, numbers(1, 0)), 13);
        dueTurning("told one is cheaper", x, LONG, INT, 1, 12);
        due("drop 11", x.drop(11), EMPTY);
        due("drop 0", x.drop(0), EMPTY);
        due("drop -1", x.drop(-1), EMPTY);
        due("drop 14", x.drop(14), EMPTY);
        due("drop far", x.drop(MOST), EMPTY);
        due("drop low", x.drop(LEAST), EMPTY);
        due("drop 12", x.drop(12), 1);
        due("drop 12 again", x.drop(12), EMPTY);
        dueTurning("next one", x, LONG, INT, 2, 13);
        due("drop 13", x.drop(13), 1);
        dueTurning("built in one", x, LONG, INT, 5, 3);
        due("count", x.count(0), 12);
        due("numbers go on", x.rule(LONG, INT, 1, 0), 14);
    }

    // ---- promise 4

    private static void turning() {
        AdapterBench x = new AdapterBench();
        dueTurning("to itself", x, TENTHS, TENTHS, 0);
        dueTurning("tenths to truth", x, TENTHS, TRUTH, 17, 9, 3, 7);
        dueTurning("truth to tenths", x, TRUTH, TENTHS, 8, 6, 0, 1, 2, 8);
        dueTurning("sign to byte", x, SIGN, BYTE, 7, 10, 5);
        dueTurning("tenths to sign", x, TENTHS, SIGN, 21, 9, 3, 4, 11);
        due("turning from -1", x.turning(-1, 0, 0), OUTSIDE);
        due("turning from 7", x.turning(7, 0, 0), OUTSIDE);
        due("turning to -1", x.turning(0, -1, 0), OUTSIDE);
        due("turning to 7", x.turning(0, 7, 0), OUTSIDE);
        due("turning what -1", x.turning(0, 1, -1), OUTSIDE);
        due("turning what low", x.turning(0, 1, LEAST), OUTSIDE);
        due("turning what far", x.turning(0, 1, MOST), NONE);
    }

    private static void turningTies() {
        AdapterBench x = new AdapterBench();
        due("rule", x.rule(BYTE, INT, 2, numbers(1, 0)), 12);
        dueTurning("fewer rules at the same cost", x, BYTE, INT, 2, 12);
        due("rule", x.rule(BYTE, INT, 2, numbers(1, 0)), 13);
        dueTurning("lesser number", x, BYTE, INT, 2, 12);
        due("rule", x.rule(TRUTH, SHORT, 2, numbers(1, 0)), 14);
        due("rule", x.rule(SHORT, LONG, 2, numbers(1, 0)), 15);
        due("rule", x.rule(TRUTH, INT, 3, numbers(1, 0)), 16);
        // 14 15 and 16 2 both cost 4, with two RULES; 6 12 2 costs 5.
        dueTurning("compared from the first", x, TRUTH, LONG, 4, 14, 15);
        due("drop", x.drop(14), 1);
        dueTurning("the other", x, TRUTH, LONG, 4, 16, 2);
        due("rule", x.rule(TRUTH, SHORT, 2, numbers(1, 0)), 17);
        dueTurning("the lesser first one", x, TRUTH, LONG, 4, 16, 2);
        due("rule", x.rule(TRUTH, LONG, 5, numbers(1, 0)), 18);
        dueTurning("cost ahead of fewer rules", x, TRUTH, LONG, 4, 16, 2);
    }

    // ---- promise 5

    private static void turn() {
        AdapterBench x = new AdapterBench();
        due("turn from -1", x.turn(-1, 0, 0), OUTSIDE);
        due("turn from 7", x.turn(7, 0, 0), OUTSIDE);
        due("turn to -1", x.turn(0, -1, 0), OUTSIDE);
        due("turn to 7", x.turn(0, 7, 999), OUTSIDE);
        due("no failure noted", x.failed(0), NONE);
        long[][] ranges = {{-128, 127}, {-32768, 32767}, {-2147483648L, 2147483647L}, {LOWEST, LONGEST}, {0, 1},
            {LOWEST, LONGEST}, {0, 127}};
        for (int sort = 0; sort < 7; sort++) {
            dueTurn(x, sort, sort, ranges[sort][0], ranges[sort][0]);
            dueTurn(x, sort, sort, ranges[sort][1], ranges[sort][1]);
            if (sort != LONG && sort != TENTHS) {
                dueFailure("below sort " + sort, x, x.turn(sort, sort, ranges[sort][0] - 1), 0, NONE);
                dueFailure("above sort " + sort, x, x.turn(sort, LONG, ranges[sort][1] + 1), 0, NONE);
            }
        }
        due("refused turns are no calls", x.count(6) + x.count(7), 0);
    }

    private static void turnByBuiltIn() {
        AdapterBench x = new AdapterBench();
        dueTurn(x, BYTE, TENTHS, -128, -1280);
        dueTurn(x, SHORT, BYTE, -128, -128);
        dueFailure("128 to byte", x, x.turn(SHORT, BYTE, 128), 1, 5);
        dueFailure("32768 to sign", x, x.turn(LONG, SIGN, 32768), 1, 4);
        dueFailure("far to sign", x, x.turn(LONG, SIGN, LOWEST), 1, 3);
        // By way of TRUTH an INT becomes a BYTE at 8, one by one at 10.
        dueTurn(x, LONG, BYTE, -128, 1);
        dueTurn(x, INT, TRUTH, 0, 0);
        dueTurn(x, INT, TRUTH, -5, 1);
        dueTurn(x, TRUTH, TENTHS, 1, 10);
        dueTurn(x, TENTHS, LONG, 19, 1);
        dueTurn(x, TENTHS, LONG, -9, 0);
        dueTurn(x, TENTHS, LONG, LOWEST, LOWEST / 10);
        dueTurn(x, LONG, TENTHS, LONGEST / 10, LONGEST / 10 * 10);
        dueTurn(x, LONG, TENTHS, LOWEST / 10, LOWEST / 10 * 10);
        dueFailure("ten times too far", x, x.turn(LONG, TENTHS, LONGEST / 10 + 1), 1, 8);
        dueFailure("ten times too low", x, x.turn(LONG, TENTHS, LOWEST / 10 - 1), 1, 8);
        dueFailure("ten times the lowest", x, x.turn(LONG, TENTHS, LOWEST), 1, 8);
        dueFailure("-1 to sign", x, x.turn(SHORT, SIGN, -1), 1, 11);
        dueTurn(x, SIGN, BYTE, 127, 127);
    }

    private static void turnByTold() {
        AdapterBench x = new AdapterBench();
        due("rule", x.rule(LONG, TENTHS, 1, numbers(2, -1)), 12);
        // Twice 2^62 alone is beyond 64 bits; what the RULE makes is not.
        dueTurn(x, LONG, TENTHS, 1L << 62, LONGEST);
        dueFailure("beyond by 1", x, x.turn(LONG, TENTHS, (1L << 62) + 1), 1, 12);
        dueFailure("below by 1", x, x.turn(LONG, TENTHS, LOWEST / 2), 1, 12);
        due("rule", x.rule(TENTHS, LONG, 1, numbers(-1000, 1000)), 13);
        dueTurn(x, TENTHS, LONG, 3, -2000);
        dueTurn(x, TENTHS, LONG, LONGEST / 1000, -(LONGEST / 1000) * 1000 + 1000);
        dueFailure("a thousand times too far", x, x.turn(TENTHS, LONG, LONGEST / 1000 + 3), 1, 13);
        due("rule", x.rule(TENTHS, BYTE, 1, numbers(0, -128)), 14);
        dueTurn(x, TENTHS, BYTE, LOWEST, -128);
        due("rule", x.rule(SIGN, TRUTH, 1, numbers(-1, 1)), 15);
        dueTurn(x, SIGN, TRUTH, 1, 0);
        dueFailure("not of its sort", x, x.turn(SIGN, TRUTH, 2), 1, 15);
        due("value stays", x.value(), 0);
        due("rule", x.rule(LONG, SIGN, 1, numbers(-1, 0)), 16);
        dueFailure("minus the lowest", x, x.turn(LONG, SIGN, LOWEST), 1, 16);
    }

    // ---- promise 6

    private static void ask() {
        AdapterBench x = new AdapterBench();
        due("ask of face -1", x.ask(-1, 0, 0), OUTSIDE);
        due("ask of face 10", x.ask(10, 0, 0), OUTSIDE);
        due("ask of name -1", x.ask(0, -1, 0), OUTSIDE);
        due("ask of name 100", x.ask(0, 100, 0), OUTSIDE);
        due("ask of sorts -1", x.ask(0, 0, -1), OUTSIDE);
        due("ask of sorts low", x.ask(0, 0, LEAST), OUTSIDE);
        due("ask of sorts far", x.ask(0, 0, MOST), OUTSIDE);
        due("ask of result 7", x.ask(0, 0, 7), OUTSIDE);
        due("ask of result 7 with an argument", x.ask(0, 0, 0_17), OUTSIDE);
        due("ask of 0 ahead of another", x.ask(0, 0, 0_100), OUTSIDE);
        due("ask of 0 among others", x.ask(0, 0, 0_1010), OUTSIDE);
        due("ask of 5 arguments", x.ask(0, 0, 0_111110), OUTSIDE);
        due("ask of 0 ahead of a fifth", x.ask(0, 0, 0_101110), OUTSIDE);
        due("refused: count", x.count(4), 0);
        due("ask with 4 arguments", x.ask(0, 99, 0_77776), 0);
        due("ask with none", x.ask(0, 0, 0), 1);
        for (int i = 2; i < 6; i++) {
            due("ask the same name", x.ask(0, 0, 0), i);
        }
        due("ask a seventh", x.ask(0, 0, 0), FULL);
        due("outside ahead of full", x.ask(0, 0, 7), OUTSIDE);
        due("another face", x.ask(9, 0, 0), 0);
        due("count of faces", x.count(4), 7);
        due("count of classes", x.count(5), 0);
    }

    // ---- promise 7

    private static void offer() {
        AdapterBench x = new AdapterBench();
        due("offer of class -1", x.offer(-1, 0, 0), OUTSIDE);
        due("offer of class 10", x.offer(10, 0, 0), OUTSIDE);
        due("offer of name -1", x.offer(0, -1, 0), OUTSIDE);
        due("offer of name 100", x.offer(0, 100, 0), OUTSIDE);
        due("offer of sorts -1", x.offer(0, 0, -1), OUTSIDE);
        due("offer of result 7", x.offer(0, 0, 7), OUTSIDE);
        due("offer of 0 ahead of another", x.offer(0, 0, 0_100), OUTSIDE);
        due("offer of 5 arguments", x.offer(0, 0, 0_111110), OUTSIDE);
        for (int i = 0; i < 6; i++) {
            due("offer " + i, x.offer(9, 99, 0_77776), i);
        }
        due("offer a seventh", x.offer(9, 0, 0), FULL);
        due("outside ahead of full", x.offer(9, 0, 7), OUTSIDE);
        due("count of classes", x.count(5), 6);
        due("count of faces", x.count(4), 0);

        AdapterBench y = bench(sorts(LONG, LONG, LONG), sorts(LONG, LONG, LONG));
        due("put", y.put(0, 0, 5), 0);
        due("hand", y.hand(0, 40), 0);
        due("hand", y.hand(1, 2), 0);
        dueResult("the first work: all arguments together, no field", y, y.call(0, 0, 0), 42);
        due("times were 1", y.times(0, 0, 1, 9), 1);
        due("work", y.work(0, 0, FORMULA, 0, 100), 0);
        due("strip", y.strip(false, 0), 1);
        due("offer again", y.offer(0, 7, sorts(LONG, LONG, LONG)), 0);
        dueResult("the first work again", y, y.call(0, 0, 0), 42);
    }

    // ---- promise 8

    private static void work() {
        AdapterBench x = new AdapterBench();
        due("work without a member", x.work(0, 0, FORMULA, 0, 0), EMPTY);
        due("outside ahead of empty: class", x.work(10, 0, FORMULA, 0, 0), OUTSIDE);
        due("outside ahead of empty: kind", x.work(0, 0, 3, 0, 0), OUTSIDE);
        due("outside ahead of empty: field", x.work(0, 0, READ, NONE, 0), OUTSIDE);
        due("outside ahead of empty: number", x.work(0, 0, FORMULA, 0, 1001), OUTSIDE);
        due("offer", x.offer(0, 0, 0), 0);
        due("class -1", x.work(-1, 0, FORMULA, 0, 0), OUTSIDE);
        due("kind -1", x.work(0, 0, -1, 0, 0), OUTSIDE);
        due("field -2 in a formula", x.work(0, 0, FORMULA, -2, 0), OUTSIDE);
        due("field 3 in a formula", x.work(0, 0, FORMULA, 3, 0), OUTSIDE);
        due("field 3 read", x.work(0, 0, READ, 3, 0), OUTSIDE);
        due("no field written", x.work(0, 0, WRITE, NONE, 0), OUTSIDE);
        due("field 3 written", x.work(0, 0, WRITE, 3, 0), OUTSIDE);
        due("number -1001", x.work(0, 0, FORMULA, NONE, -1001), OUTSIDE);
        due("number far", x.work(0, 0, FORMULA, NONE, LEAST), OUTSIDE);
        due("member -1", x.work(0, -1, FORMULA, 0, 0), EMPTY);
        due("member 1", x.work(0, 1, FORMULA, 0, 0), EMPTY);
        due("number not looked at: read", x.work(0, 0, READ, 0, 5000), 0);
        due("number not looked at: write", x.work(0, 0, WRITE, 2, LEAST), 0);
        due("formula", x.work(0, 0, FORMULA, 2, -1000), 0);
        due("formula", x.work(0, 0, FORMULA, NONE, 1000), 0);
        due("offer", x.offer(9, 0, 0), 0);
        due("of the last class", x.work(9, 0, READ, 2, 0), 0);
    }

    // ---- promise 9

    private static void times() {
        AdapterBench x = new AdapterBench();
        due("class -1", x.times(-1, 0, 0, 0), OUTSIDE);
        due("class 10", x.times(10, 0, 0, 0), OUTSIDE);
        due("empty ahead of i and by", x.times(0, 0, 9, 9999), EMPTY);
        due("offer", x.offer(0, 0, sorts(LONG, LONG, LONG)), 0);
        due("member -1", x.times(0, -1, 0, 0), EMPTY);
        due("member 1", x.times(0, 1, 0, 0), EMPTY);
        due("i -1", x.times(0, 0, -1, 0), OUTSIDE);
        due("i of no argument", x.times(0, 0, 2, 0), OUTSIDE);
        due("by 1001", x.times(0, 0, 0, 1001), OUTSIDE);
        due("by -1001", x.times(0, 0, 0, -1001), OUTSIDE);
        due("by far", x.times(0, 0, 0, LEAST), OUTSIDE);
        due("1 at first", x.times(0, 0, 0, 1000), 1);
        due("what it was", x.times(0, 0, 0, -1000), 1000);
        due("of each its own", x.times(0, 0, 1, 7), 1);
        due("other work", x.work(0, 0, READ, 0, 0), 0);
        due("also of other work", x.times(0, 0, 0, 3), -1000);
        due("a formula again", x.work(0, 0, FORMULA, NONE, 0), 0);
        due("stays", x.times(0, 0, 0, 3), 3);
        due("offer", x.offer(9, 0, sorts(LONG, LONG)), 0);
        due("of the last class", x.times(9, 0, 0, 3), 1);
    }

    // ---- promise 10

    private static void strip() {
        AdapterBench x = bench(sorts(LONG), sorts(LONG));
        due("offer", x.offer(0, 8, sorts(LONG)), 1);
        due("face -1", x.strip(true, -1), OUTSIDE);
        due("face 10", x.strip(true, 10), OUTSIDE);
        due("class -1", x.strip(false, -1), OUTSIDE);
        due("class 10", x.strip(false, 10), OUTSIDE);
        due("put", x.put(0, 1, 6), 0);
        due("the class", x.strip(false, 0), 2);
        due("the class again", x.strip(false, 0), 0);
        due("the face is another", x.count(4), 1);
        due("objects stay", x.count(1), 1);
        due("fields stay", x.field(0, 1), 6);
        due("a gap now", x.call(0, 0, 0), GAP);
        due("the face", x.strip(true, 0), 1);
        due("no member now", x.call(0, 0, 0), EMPTY);
        due("numbers from 0", x.ask(0, 7, sorts(LONG)), 0);
        due("count", x.count(5), 0);
    }

    // ---- promise 11

    private static void alias() {
        AdapterBench x = bench(sorts(LONG), sorts(LONG));
        Check.due("name -1", x.alias(-1, 0, true), false);
        Check.due("name 100", x.alias(100, 0, true), false);
        Check.due("other -1", x.alias(0, -1, true), false);
        Check.due("other 100", x.alias(0, 100, true), false);
        Check.due("the same", x.alias(5, 5, true), false);
        Check.due("not told", x.alias(5, 6, false), false);
        due("count", x.count(2), 0);
        due("ask", x.ask(1, 99, sorts(LONG)), 0);
        due("not met", x.fits(1, 0), GAP);
        Check.due("the other way round", x.alias(7, 99, true), true);
        due("not met by that", x.fits(1, 0), GAP);
        Check.due("met", x.alias(99, 7, true), true);
        Check.due("not new", x.alias(99, 7, true), false);
        due("met at 2", x.fits(1, 0), 2);
        due("count of two", x.count(2), 2);
        Check.due("off", x.alias(99, 7, false), true);
        Check.due("off again", x.alias(99, 7, false), false);
        Check.due("another", x.alias(98, 6, true), true);
        Check.due("the older off", x.alias(7, 99, false), true);
        Check.due("the older off again", x.alias(7, 99, false), false);
        Check.due("the newer stays", x.alias(98, 6, true), false);
        Check.due("the newer off", x.alias(98, 6, false), true);
        Check.due("the older on again", x.alias(7, 99, true), true);
        due("not met any more", x.fits(1, 0), GAP);
        for (int i = 1; i < 30; i++) {
            Check.due("alias " + i, x.alias(0, i, true), true);
        }
        due("count of 30", x.count(2), 30);
        Check.due("no room", x.alias(0, 30, true), false);
        Check.due("off when full", x.alias(0, 1, false), true);
        Check.due("room again", x.alias(0, 30, true), true);
        Check.due("the last stays told", x.alias(0, 29, true), false);
        Check.due("the first, too", x.alias(7, 99, false), true);
        due("count of 29", x.count(2), 29);
    }

    // ---- promise 12

    private static void constant() {
        AdapterBench x = new AdapterBench();
        due("sort -1", x.constant(-1, true, 0), OUTSIDE);
        due("sort 7", x.constant(7, true, 0), OUTSIDE);
        due("sort 7, off", x.constant(7, false, 0), OUTSIDE);
        due("not of byte", x.constant(BYTE, true, 128), OUTSIDE);
        due("not of truth", x.constant(TRUTH, true, -1), OUTSIDE);
        due("not of sign", x.constant(SIGN, true, 128), OUTSIDE);
        due("count", x.count(3), 0);
        due("none yet", x.constant(BYTE, false, 128), 0);
        due("told", x.constant(BYTE, true, -128), 0);
        due("told again", x.constant(BYTE, true, 127), 1);
        due("refused stays", x.constant(BYTE, true, 500), OUTSIDE);
        due("count of one", x.count(3), 1);
        due("of tenths", x.constant(TENTHS, true, LOWEST), 0);
        due("off, not looked at", x.constant(BYTE, false, 500), 1);
        due("off again", x.constant(BYTE, false, 0), 0);
        due("count of the other", x.count(3), 1);

        AdapterBench y = bench(sorts(LONG), sorts(LONG, LONG));
        due("gap", y.call(0, 0, 0), GAP);
        due("constant", y.constant(LONG, true, 11), 0);
        dueResult("given", y, y.call(0, 0, 0), 11);
        due("constant", y.constant(LONG, true, LONGEST), 1);
        dueResult("given at once", y, y.call(0, 0, 0), LONGEST);
        due("refused", y.constant(INT, true, LONGEST), OUTSIDE);
        due("off", y.constant(LONG, false, 3), 1);
        due("gap again", y.call(0, 0, 0), GAP);
    }

    // ---- promise 13

    private static void fitCosts() {
        dueFit("alike", bench(sorts(INT, BYTE, LONG), sorts(INT, BYTE, LONG)), 0, 0, 0, 0, 1);
        dueFit("result turned back", bench(sorts(TENTHS), sorts(INT)), 0, 4, 0);
        dueFit("result the other way", bench(sorts(INT), sorts(TENTHS)), 0, 11, 0);
        dueFit("argument turned", bench(sorts(INT, BYTE), sorts(INT, LONG)), 0, 3, 0, 0);
        dueFit("other places", bench(sorts(INT, BYTE, LONG), sorts(INT, LONG, BYTE)), 0, 2, 0, 1, 0);
        dueFit("left over", bench(sorts(INT, BYTE, LONG), sorts(INT)), 0, 8, 0);
        dueFit("left over, place", bench(sorts(INT, TENTHS, LONG), sorts(INT, LONG)), 0, 5, 0, 1);
        due("not enough", bench(sorts(INT), sorts(INT, BYTE)).fit(0, 0, 0, 0), GAP);

        AdapterBench x = bench(sorts(INT, BYTE), sorts(INT, BYTE, TRUTH));
        due("constant", x.constant(TRUTH, true, 1), 0);
        dueFit("a constant", x, 0, 7, 0, 0, 9);
        due("constant", x.constant(BYTE, true, 1), 0);
        // Byte to truth costs 8, and 1 for the place: 16 with a CONSTANT; two CONSTANTS and one left: 18.
        dueFit("a constant still", x, 0, 7, 0, 0, 9);
        AdapterBench y = bench(sorts(INT, TENTHS), sorts(INT, SIGN));
        due("21 by turning", y.fit(0, 0, 0, 0), 21);
        due("constant", y.constant(SIGN, true, 1), 0);
        dueFit("a constant is cheaper, one left over", y, 0, 11, 0, 9);

        AdapterBench w = bench(sorts(INT, BYTE), sorts(INT, TRUTH, BYTE, TRUTH));
        due("constant", w.constant(TRUTH, true, 0), 0);
        dueFit("constants around", w, 0, 15, 0, 9, 0, 9);

        AdapterBench z = bench(sorts(INT), sorts(INT));
        due("ask", z.ask(1, 7, sorts(LONG)), 0);
        due("by a face", z.fit(0, 0, 11, 0), 5);
        due("by itself", z.fit(0, 0, 10, 0), 0);
        due("the face by the class", z.fit(1, 0, 0, 0), 1);
    }

    private static void fitTies() {
        AdapterBench x = bench(sorts(INT, INT, INT, INT), sorts(INT, INT));
        dueFit("the own place", x, 0, 8, 0, 0);
        AdapterBench y = bench(sorts(LONG, INT, INT), sorts(LONG, INT, INT, INT));
        due("constant", y.constant(INT, true, 1), 0);
        dueFit("constant behind all", y, 0, 7, 0, 0, 1, 9);
        AdapterBench z = bench(sorts(INT, BYTE, BYTE), sorts(INT, BYTE, BYTE));
        due("constant", z.constant(BYTE, true, 1), 0);
        dueFit("both at their places", z, 0, 0, 0, 0, 1);
        AdapterBench w = new AdapterBench();
        due("ask", w.ask(0, 1, sorts(INT, INT, LONG)), 0);
        due("offer", w.offer(0, 1, sorts(INT, LONG, LONG)), 0);
        // 0 1: 1 + 0; 1 0: 0 + 1 and 1 + 1.
        dueFit("cheaper order", w, 0, 1, 0, 0, 1);
        AdapterBench v = new AdapterBench();
        due("ask", v.ask(0, 1, sorts(INT, INT, SHORT)), 0);
        due("offer", v.offer(0, 1, sorts(INT, LONG)), 0);
        // Place 0: 1 and 4 left; place 1: 2 + 1 and 4 left.
        dueFit("one of two", v, 0, 5, 0, 0);
        AdapterBench u = new AdapterBench();
        due("ask", u.ask(0, 1, sorts(INT, INT, LONG)), 0);
        due("offer", u.offer(0, 1, sorts(INT, LONG)), 0);
        // Place 0: 1 by its RULE; place 1: 1 for the place: the lesser place is ahead.
        dueFit("lesser place of equal costs", u, 0, 5, 0, 0);
        due("rule", u.rule(INT, TENTHS, 3, 0), 12);
        due("offer", u.offer(1, 1, sorts(INT, TENTHS)), 0);
        due("constant", u.constant(TENTHS, true, 0), 0);
        // Place 0: 3 and 4 left; place 1: 3 and 1 and 4 left; CONSTANT: 7 and 8 left.
        dueFit("lesser place", u, 1, 7, 0, 0);
        membersTie();
    }

    private static void membersTie() {
        AdapterBench x = new AdapterBench();
        due("ask", x.ask(0, 1, sorts(INT)), 0);
        due("offer", x.offer(0, 2, sorts(INT)), 0);
        due("offer", x.offer(0, 1, sorts(SHORT)), 1);
        due("offer", x.offer(0, 1, sorts(SHORT)), 2);
        dueFit("the first of equal ones", x, 0, 1, 1);
        Check.due("alias", x.alias(1, 2, true), true);
        dueFit("alias is dearer", x, 0, 1, 1);
        due("offer", x.offer(0, 1, sorts(INT)), 3);
        dueFit("the cheapest", x, 0, 0, 3);
        due("offer", x.offer(1, 2, sorts(SHORT)), 0);
        dueFit("alias and turning", x, 1, 3, 0);
        AdapterBench z = bench(sorts(LONG, BYTE), sorts(LONG, LONG));
        due("offer", z.offer(0, 7, sorts(LONG)), 1);
        dueFit("one left over at the end is dearer", z, 0, 3, 0, 0);
        // A CONSTANT and none left over against a turned ARGUMENT: 7 and 4 against 11.
        AdapterBench y = new AdapterBench();
        due("ask", y.ask(0, 1, sorts(INT, LONG)), 0);
        due("rule", y.rule(LONG, SIGN, 11, 0), 12);
        due("offer", y.offer(0, 1, sorts(INT, SIGN)), 0);
        due("constant", y.constant(SIGN, true, 1), 0);
        dueFit("a place ahead of a constant", y, 0, 11, 0, 0);
    }

    private static void fitRefusals() {
        AdapterBench x = bench(sorts(INT), sorts(INT));
        due("face -1", x.fit(-1, 0, 0, 0), OUTSIDE);
        due("face 10", x.fit(10, 0, 0, 0), OUTSIDE);
        due("shape -1", x.fit(0, 0, -1, 0), OUTSIDE);
        due("shape 20", x.fit(0, 0, 20, 0), OUTSIDE);
        due("what -1", x.fit(0, 0, 0, -1), OUTSIDE);
        due("what 6", x.fit(0, 0, 0, 6), OUTSIDE);
        due("outside ahead of empty", x.fit(0, 9, 0, 6), OUTSIDE);
        due("member -1", x.fit(0, -1, 0, 0), EMPTY);
        due("member 1", x.fit(0, 1, 0, 0), EMPTY);
        due("empty ahead of gap", x.fit(0, 1, 1, 0), EMPTY);
        due("gap", x.fit(0, 0, 1, 0), GAP);
        due("gap ahead of none", x.fit(0, 0, 1, 5), GAP);
        due("gap by a face", x.fit(0, 0, 19, 0), GAP);
        due("no such argument", x.fit(0, 0, 0, 2), NONE);
        due("ask", x.ask(9, 7, sorts(TENTHS)), 0);
        due("of the last face", x.fit(9, 0, 0, 0), 4);
        due("by the last face", x.fit(0, 0, 19, 0), 11);
    }

    // ---- promise 14

    private static void fits() {
        AdapterBench x = bench(sorts(LONG), sorts(INT));
        due("one", x.fits(0, 0), 1);
        due("ask", x.ask(0, 8, sorts(LONG, BYTE)), 1);
        due("gap", x.fits(0, 0), GAP);
        Check.due("alias", x.alias(8, 7, true), true);
        due("all together: 1, and 2 + 1 + 4", x.fits(0, 0), 8);
        due("a face without members", x.fits(1, 0), 0);
        due("a face without members by one without", x.fits(1, 12), 0);
        due("by an empty class", x.fits(0, 9), GAP);
        due("by a face", x.fits(0, 10), 0);
        due("face -1", x.fits(-1, 0), OUTSIDE);
        due("face 10", x.fits(10, 0), OUTSIDE);
        due("shape -1", x.fits(0, -1), OUTSIDE);
        due("shape 20", x.fits(0, 20), OUTSIDE);
    }

    // ---- promise 15

    private static void gap() {
        AdapterBench x = bench(sorts(LONG), sorts(LONG));
        due("it fits", x.gap(0, 0), NONE);
        due("ask", x.ask(0, 7, sorts(INT)), 1);
        due("ask", x.ask(0, 9, sorts(INT)), 2);
        due("ask", x.ask(0, 10, sorts(INT)), 3);
        due("the least", x.gap(0, 0), 2);
        due("by an empty class", x.gap(0, 1), 0);
        due("by a face", x.gap(0, 10), NONE);
        due("by an empty face", x.gap(0, 18), 0);
        due("a face without members", x.gap(1, 1), NONE);
        due("ask", x.ask(9, 7, sorts(LONG)), 0);
        due("ask", x.ask(9, 8, sorts(LONG)), 1);
        due("of another face", x.gap(9, 0), 1);
        due("of another face by another", x.gap(9, 10), 1);
        due("of this face by the other", x.gap(0, 19), 2);
        due("face -1", x.gap(-1, 0), OUTSIDE);
        due("face 10", x.gap(10, 0), OUTSIDE);
        due("shape -1", x.gap(0, -1), OUTSIDE);
        due("shape 20", x.gap(0, 20), OUTSIDE);
    }

    // ---- promise 16

    private static void way() {
        AdapterBench x = chain(9);
        dueWay("to itself", x, 4, 4, 0, 4);
        dueWay("to the next", x, 4, 5, 2, 4, 5);
        dueWay("through all", x, 0, 9, 18, 0, 1, 2, 3, 4, 5, 6, 7, 8, 9);
        due("none back", x.way(9, 0, 0), NONE);
        due("none back, what far", x.way(9, 0, MOST), NONE);
        Check.due("alias", x.alias(9, 0, true), true);
        dueWay("a shorter one", x, 0, 9, 2, 0, 9);
        Check.due("alias", x.alias(0, 9, true), true);
        dueWay("on through the first", x, 8, 1, 6, 8, 9, 0, 1);
        dueWay("to the first", x, 8, 0, 4, 8, 9, 0);
        dueWay("to it and on", x, 0, 8, 16, 0, 1, 2, 3, 4, 5, 6, 7, 8);
        due("from -1", x.way(-1, 0, 0), OUTSIDE);
        due("from 10", x.way(10, 0, 0), OUTSIDE);
        due("to -1", x.way(0, -1, 0), OUTSIDE);
        due("to 10", x.way(0, 10, 0), OUTSIDE);
        due("what -1", x.way(0, 0, -1), OUTSIDE);
        due("what low", x.way(0, 0, LEAST), OUTSIDE);
        due("what far", x.way(0, 0, MOST), NONE);
    }

    private static void wayTies() {
        AdapterBench x = chain(3);
        dueWay("a row", x, 0, 3, 6, 0, 1, 2, 3);
        due("ask", x.ask(4, 1, sorts(LONG, LONG)), 0);
        // FACES 1 and 4 are alike: 0 1 2 and 0 4 2.
        dueWay("lesser faces ahead", x, 0, 2, 4, 0, 1, 2);
        due("strip", x.strip(true, 1), 1);
        dueWay("by the other", x, 0, 2, 4, 0, 4, 2);
        due("ask", x.ask(1, 1, sorts(LONG, LONG)), 0);
        dueWay("lesser faces again", x, 0, 2, 4, 0, 1, 2);
        // Alike FACES fit at 0; fewer FACES are ahead of lesser ones.
        dueWay("alike faces", x, 4, 1, 0, 4, 1);
        dueWay("fewest faces", x, 4, 3, 4, 4, 2, 3);
        AdapterBench y = new AdapterBench();
        due("ask", y.ask(0, 0, sorts(LONG)), 0);
        due("ask", y.ask(1, 1, sorts(LONG)), 0);
        due("ask", y.ask(2, 2, sorts(TENTHS)), 0);
        Check.due("alias", y.alias(1, 0, true), true);
        Check.due("alias", y.alias(2, 1, true), true);
        dueWay("two steps", y, 0, 2, 7, 0, 1, 2);
        Check.due("alias", y.alias(2, 0, true), true);
        dueWay("one step is cheaper", y, 0, 2, 5, 0, 2);
        // An empty FACE is fitted by all, and fits none but empty ones.
        dueWay("to an empty face", y, 2, 9, 0, 2, 9);
        due("from an empty face", y.way(9, 2, 0), NONE);
        dueWay("among empty faces", y, 9, 8, 0, 9, 8);
    }

    // ---- promise 17

    private static void object() {
        AdapterBench x = new AdapterBench();
        due("class -1", x.object(-1), OUTSIDE);
        due("class 10", x.object(10), OUTSIDE);
        for (int i = 0; i < 20; i++) {
            due("object " + i, x.object(i % 10), i);
            due("its fields", x.field(i, 0) | x.field(i, 1) | x.field(i, 2), 0);
        }
        due("no room", x.object(0), FULL);
        due("outside ahead of full", x.object(10), OUTSIDE);
        due("count", x.count(1), 20);
        due("ask", x.ask(0, 1, sorts(LONG)), 0);
        due("offer", x.offer(7, 1, sorts(LONG)), 0);
        due("of its class", x.call(17, 0, 0), 0);
        due("of another", x.call(18, 0, 0), GAP);
    }

    // ---- promise 18

    private static void put() {
        AdapterBench x = new AdapterBench();
        due("no object", x.put(0, 0, 1), EMPTY);
        due("empty ahead of outside", x.put(0, 3, 1), EMPTY);
        due("object", x.object(3), 0);
        due("object", x.object(3), 1);
        due("object -1", x.put(-1, 0, 1), EMPTY);
        due("object 2", x.put(2, 0, 1), EMPTY);
        due("field -1", x.put(0, -1, 1), OUTSIDE);
        due("field 3", x.put(0, 3, 1), OUTSIDE);
        due("put", x.put(0, 2, LOWEST), 0);
        due("put", x.put(1, 0, LONGEST), 0);
        due("its own", x.field(0, 2), LOWEST);
        due("another's", x.field(1, 0), LONGEST);
        due("no other", x.field(0, 0) | x.field(0, 1) | x.field(1, 1) | x.field(1, 2), 0);
    }

    // ---- promise 19

    private static void field() {
        AdapterBench x = new AdapterBench();
        due("no object", x.field(0, 0), 0);
        due("object", x.object(0), 0);
        due("object", x.object(0), 1);
        for (int i = 0; i < 6; i++) {
            due("put", x.put(i / 3, i % 3, 70 + i), 0);
        }
        due("field -1", x.field(1, -1), 0);
        due("field 3", x.field(0, 3), 0);
        due("object -1", x.field(-1, 0), 0);
        due("object 2", x.field(2, 0), 0);
        due("far", x.field(MOST, LEAST), 0);
        for (int i = 0; i < 6; i++) {
            due("field " + i, x.field(i / 3, i % 3), 70 + i);
        }
    }

    // ---- promise 20

    private static void hand() {
        AdapterBench x = bench(sorts(LONG, LONG, LONG, LONG, LONG), sorts(LONG, LONG, LONG, LONG, LONG));
        dueResult("0 at first", x, x.call(0, 0, 0), 0);
        due("hand -1", x.hand(-1, 5), OUTSIDE);
        due("hand 4", x.hand(4, 5), OUTSIDE);
        for (int i = 0; i < 4; i++) {
            due("hand " + i, x.hand(i, 1 + i), 0);
            due("times " + i, x.times(0, 0, i, i == 0 ? 1000 : i == 1 ? 100 : i == 2 ? 10 : 1), 1);
        }
        dueResult("each its own", x, x.call(0, 0, 0), 1234);
        dueResult("they stay", x, x.call(0, 0, 0), 1234);
        due("hand 3", x.hand(3, -4), 0);
        dueResult("a new one", x, x.call(0, 0, 0), 1226);
    }

    // ---- promise 21

    private static void call() {
        AdapterBench x = bench(sorts(LONG, BYTE), sorts(LONG, BYTE));
        due("empty ahead of outside", x.call(1, 10, 0), EMPTY);
        due("object -1", x.call(-1, 0, 0), EMPTY);
        due("face -1", x.call(0, -1, 0), OUTSIDE);
        due("face 10", x.call(0, 10, 9), OUTSIDE);
        due("member -1", x.call(0, 0, -1), EMPTY);
        due("member 1", x.call(0, 0, 1), EMPTY);
        due("member of an empty face", x.call(0, 1, 0), EMPTY);
        due("ask", x.ask(0, 8, sorts(LONG, TRUTH)), 1);
        due("hand", x.hand(0, 1000), 0);
        due("gap ahead of fails", x.call(0, 0, 1), GAP);
        due("count of neither", x.count(6) + x.count(7), 0);
        dueFailure("not of its sort", x, x.call(0, 0, 0), 0, NONE);
        due("count of failed", x.count(7), 1);
        due("strip", x.strip(false, 0), 1);
        due("offer", x.offer(0, 7, sorts(LONG)), 0);
        dueFailure("also one that none takes", x, x.call(0, 0, 0), 0, NONE);
        due("hand", x.hand(0, 127), 0);
        due("hand that none looks at", x.hand(1, LONGEST), 0);
        dueResult("done", x, x.call(0, 0, 0), 0);
        due("count of done", x.count(6), 1);
        due("ask", x.ask(9, 7, sorts(TENTHS)), 0);
        due("work", x.work(0, 0, FORMULA, NONE, 5), 0);
        dueResult("of another face", x, x.call(0, 9, 0), 50);
    }

    private static void callFormula() {
        AdapterBench x = bench(sorts(TENTHS, TENTHS, BYTE), sorts(INT, SHORT, LONG));
        // Byte to short 1, moved 1; tenths to long 6, moved 1; int to tenths 4.
        dueFit("fit", x, 0, 13, 0, 1, 0);
        due("work", x.work(0, 0, FORMULA, 2, -1000), 0);
        due("times", x.times(0, 0, 0, -1000), 1);
        due("times", x.times(0, 0, 1, 1000), 1);
        due("put", x.put(0, 2, 7), 0);
        due("hand", x.hand(0, 39), 0);
        due("hand", x.hand(1, -2), 0);
        // -1000 + -2 * -1000 + 3 * 1000 + 7, in tenths
        dueResult("formula", x, x.call(0, 0, 0), 40070);
        due("work", x.work(0, 0, FORMULA, NONE, 5), 0);
        dueResult("formula without a field", x, x.call(0, 0, 0), 50050);
        due("the field stays", x.field(0, 2), 7);
        due("times", x.times(0, 0, 1, 0), 1000);
        dueResult("formula times 0", x, x.call(0, 0, 0), 20050);
    }

    private static void callFormulaAtEdges() {
        AdapterBench x = bench(sorts(LONG, LONG, LONG), sorts(LONG, LONG, LONG));
        due("hand", x.hand(0, LONGEST), 0);
        due("hand", x.hand(1, -1), 0);
        due("work", x.work(0, 0, FORMULA, NONE, 1), 0);
        dueFailure("beyond at the first addition", x, x.call(0, 0, 0), 2, NONE);
        due("work", x.work(0, 0, FORMULA, NONE, 0), 0);
        dueResult("not beyond", x, x.call(0, 0, 0), LONGEST - 1);
        due("work", x.work(0, 0, FORMULA, 1, 0), 0);
        due("put", x.put(0, 1, 1), 0);
        dueResult("up to the edge by the field", x, x.call(0, 0, 0), LONGEST);
        due("put", x.put(0, 1, 2), 0);
        dueFailure("beyond by the field", x, x.call(0, 0, 0), 2, NONE);
        due("put", x.put(0, 1, LOWEST), 0);
        due("times", x.times(0, 0, 0, 2), 1);
        dueFailure("a product beyond, though the sum is not", x, x.call(0, 0, 0), 2, NONE);
        due("hand", x.hand(0, LOWEST), 0);
        due("times", x.times(0, 0, 0, -1), 2);
        dueFailure("minus the lowest", x, x.call(0, 0, 0), 2, NONE);
        due("times", x.times(0, 0, 0, 0), -1);
        dueFailure("below by the field", x, x.call(0, 0, 0), 2, NONE);
        due("times", x.times(0, 0, 0, 1), 0);
        due("put", x.put(0, 1, 0), 0);
        dueFailure("below at the second addition", x, x.call(0, 0, 0), 2, NONE);
        due("hand", x.hand(1, 0), 0);
        dueResult("the lowest", x, x.call(0, 0, 0), LOWEST);
        due("work", x.work(0, 0, FORMULA, NONE, -1), 0);
        dueFailure("below at the first", x, x.call(0, 0, 0), 2, NONE);
        AdapterBench y = bench(sorts(LONG), sorts(SIGN));
        due("work", y.work(0, 0, FORMULA, NONE, 128), 0);
        dueFailure("not of the result's sort", y, y.call(0, 0, 0), 2, NONE);
        due("work", y.work(0, 0, FORMULA, NONE, 127), 0);
        dueResult("of its sort", y, y.call(0, 0, 0), 127);
    }

    private static void callReadAndWrite() {
        AdapterBench x = bench(sorts(LONG, LONG, LONG), sorts(SHORT, LONG, LONG));
        due("times are not for write", x.times(0, 0, 0, 1000), 1);
        due("work", x.work(0, 0, WRITE, 1, 500), 0);
        due("put", x.put(0, 1, -32768), 0);
        due("hand", x.hand(0, 40000), 0);
        due("hand", x.hand(1, 2), 0);
        dueResult("what it was", x, x.call(0, 0, 0), -32768);
        due("what it became", x.field(0, 1), 40002);
        due("no other field", x.field(0, 0) | x.field(0, 2), 0);
        dueFailure("what it was is not of the sort", x, x.call(0, 0, 0), 2, NONE);
        due("then it stays", x.field(0, 1), 40002);
        due("put", x.put(0, 1, 9), 0);
        due("hand", x.hand(1, LONGEST), 0);
        dueFailure("beyond together", x, x.call(0, 0, 0), 2, NONE);
        due("then it stays, too", x.field(0, 1), 9);
        due("work", x.work(0, 0, READ, 1, 0), 0);
        dueResult("read: arguments not looked at", x, x.call(0, 0, 0), 9);
        due("read changes nothing", x.field(0, 1), 9);
        due("put", x.put(0, 1, 32768), 0);
        dueFailure("read is not of the sort", x, x.call(0, 0, 0), 2, NONE);
        due("offer", x.offer(0, 8, sorts(LONG, LONG)), 1);
        due("work", x.work(0, 1, WRITE, 2, 0), 0);
        due("ask", x.ask(1, 8, sorts(LONG, LONG)), 0);
        due("hand", x.hand(0, 6), 0);
        dueResult("a write behind others", x, x.call(0, 1, 0), 0);
        due("of its own argument alone", x.field(0, 2), 6);
        dueResult("a write behind a write", x, x.call(0, 1, 0), 6);
        due("of its own argument again", x.field(0, 2), 6);
        AdapterBench y = bench(sorts(SHORT), sorts(LONG));
        due("work", y.work(0, 0, WRITE, 0, 0), 0);
        due("put", y.put(0, 0, 40000), 0);
        dueFailure("result fails on its way back", y, y.call(0, 0, 0), 3, 4);
        due("but the write stays: 0 without arguments", y.field(0, 0), 0);
        due("put", y.put(0, 0, LOWEST), 0);
        dueFailure("by another rule", y, y.call(0, 0, 0), 3, 3);
    }

    private static void callOrder() {
        AdapterBench x = bench(sorts(SHORT, LONG, LONG), sorts(LONG, SHORT, SIGN));
        due("hand", x.hand(0, 40000), 0);
        due("hand", x.hand(1, -1), 0);
        dueFailure("the first argument first", x, x.call(0, 0, 0), 1, 4);
        due("hand", x.hand(0, 30000), 0);
        dueFailure("then the second", x, x.call(0, 0, 0), 1, 11);
        due("hand", x.hand(1, LONGEST), 0);
        dueFailure("by its first rule", x, x.call(0, 0, 0), 1, 3);
        due("hand", x.hand(1, 100), 0);
        due("work", x.work(0, 0, FORMULA, 0, 0), 0);
        due("put", x.put(0, 0, LONGEST), 0);
        dueFailure("then the work", x, x.call(0, 0, 0), 2, NONE);
        due("put", x.put(0, 0, 2668), 0);
        dueFailure("then the result", x, x.call(0, 0, 0), 3, 4);
        due("put", x.put(0, 0, 2667), 0);
        dueResult("then none", x, x.call(0, 0, 0), 32767);
        due("count of failed", x.count(7), 5);
        due("count of done", x.count(6), 1);
        // In the order of the server's ARGUMENTS, not the FACE's.
        AdapterBench y = bench(sorts(LONG, SHORT, LONG), sorts(LONG, INT, SIGN));
        dueFit("fit", y, 0, 12, 0, 1, 0);
        due("hand", y.hand(0, -1), 0);
        due("hand", y.hand(1, LONGEST), 0);
        dueFailure("the server's first", y, y.call(0, 0, 0), 1, 3);
        due("hand", y.hand(1, 5), 0);
        dueFailure("the server's second", y, y.call(0, 0, 0), 1, 11);
    }

    // ---- promise 22

    private static void through() {
        AdapterBench x = chain(9);
        due("object", x.object(5), 0);
        due("offer", x.offer(5, 0, sorts(LONG, LONG)), 0);
        due("times", x.times(5, 0, 0, 3), 1);
        due("hand", x.hand(0, 14), 0);
        dueResult("through all", x, x.through(0, 0, 9, 0), 42);
        dueResult("through one", x, x.through(0, 0, 0, 0), 42);
        dueResult("the class meets face 1, too", x, x.through(0, 1, 9, 0), 42);
        due("gap at the class", x.through(0, 2, 9, 0), GAP);
        due("count of done", x.count(6), 3);
        due("empty ahead of outside", x.through(1, 10, 10, 0), EMPTY);
        due("object -1", x.through(-1, 0, 0, 0), EMPTY);
        due("from -1", x.through(0, -1, 0, 0), OUTSIDE);
        due("from 10", x.through(0, 10, 0, 0), OUTSIDE);
        due("to -1", x.through(0, 0, -1, 0), OUTSIDE);
        due("to 10", x.through(0, 0, 10, 0), OUTSIDE);
        due("no way, ahead of no member", x.through(0, 9, 0, 5), NONE);
        due("member -1", x.through(0, 0, 9, -1), EMPTY);
        due("member 1", x.through(0, 0, 9, 1), EMPTY);
        due("empty ahead of gap", x.through(0, 2, 9, 1), EMPTY);
        due("call of the same", x.call(0, 9, 0), GAP);
    }

    private static void throughOrder() {
        AdapterBench x = new AdapterBench();
        due("ask", x.ask(0, 0, sorts(BYTE, BYTE)), 0);
        due("ask", x.ask(1, 1, sorts(SHORT, SHORT)), 0);
        due("ask", x.ask(2, 2, sorts(TENTHS, INT)), 0);
        due("offer", x.offer(0, 0, sorts(SHORT, TRUTH)), 0);
        due("object", x.object(0), 0);
        Check.due("alias", x.alias(1, 0, true), true);
        Check.due("alias", x.alias(2, 1, true), true);
        dueWay("way", x, 0, 2, 20, 0, 1, 2);
        due("hand", x.hand(0, LONGEST), 0);
        dueFailure("in hand", x, x.through(0, 0, 2, 0), 0, NONE);
        due("hand", x.hand(0, 40000), 0);
        dueFailure("to the middle", x, x.through(0, 0, 2, 0), 1, 4);
        due("hand", x.hand(0, 300), 0);
        dueFailure("to the first", x, x.through(0, 0, 2, 0), 1, 5);
        due("hand", x.hand(0, 3), 0);
        due("work", x.work(0, 0, FORMULA, 0, 0), 0);
        due("put", x.put(0, 0, 99), 0);
        // 3 is turned to 1 for the class; its 100 comes back in tenths.
        dueResult("all along", x, x.through(0, 0, 2, 0), 1000);
        due("put", x.put(0, 0, LONGEST), 0);
        dueFailure("the work", x, x.through(0, 0, 2, 0), 2, NONE);
        due("put", x.put(0, 0, 127), 0);
        dueFailure("back to the first", x, x.through(0, 0, 2, 0), 3, 5);
        due("strip", x.strip(false, 0), 1);
        due("hand", x.hand(0, LONGEST), 0);
        due("gap ahead of fails", x.through(0, 0, 2, 0), GAP);
        due("failed stays", x.failed(0), 3);
        // Places change twice on the way, and a CONSTANT comes in at the middle.
        AdapterBench y = new AdapterBench();
        due("ask", y.ask(0, 0, sorts(LONG, LONG, TENTHS)), 0);
        due("ask", y.ask(1, 0, sorts(LONG, TENTHS, LONG)), 0);
        due("ask", y.ask(2, 0, sorts(LONG, LONG)), 0);
        due("offer", y.offer(0, 0, sorts(LONG, LONG, TENTHS)), 0);
        due("object", y.object(0), 0);
        due("times", y.times(0, 0, 1, 1000), 1);
        due("constant", y.constant(TENTHS, true, 7), 0);
        due("hand", y.hand(0, 5), 0);
        due("hand", y.hand(1, 6), 0);
        dueResult("places", y, y.through(0, 0, 1, 0), 5006);
        dueResult("a constant", y, y.through(0, 0, 2, 0), 7005);
    }

    // ---- promise 23

    private static void value() {
        AdapterBench x = bench(sorts(LONG, LONG), sorts(LONG, LONG));
        due("at first", x.value(), 0);
        due("turn", x.turn(LONG, LONG, LOWEST), 0);
        due("of turn", x.value(), LOWEST);
        due("hand", x.hand(0, 8), 0);
        due("call", x.call(0, 0, 0), 0);
        due("of call", x.value(), 8);
        due("hand", x.hand(0, 9), 0);
        due("through", x.through(0, 0, 0, 0), 0);
        due("of through", x.value(), 9);
        due("turn fails", x.turn(BYTE, LONG, 1000), FAILS);
        due("stays", x.value(), 9);
        due("turn fails on its way", x.turn(SHORT, BYTE, 1000), FAILS);
        due("stays again", x.value(), 9);
        due("work", x.work(0, 0, FORMULA, 0, 0), 0);
        due("put", x.put(0, 0, LONGEST), 0);
        due("call fails", x.call(0, 0, 0), FAILS);
        due("stays behind call", x.value(), 9);
        due("refused", x.call(0, 0, 1), EMPTY);
        due("stays behind refused", x.value(), 9);
    }

    // ---- promise 24

    private static void failed() {
        AdapterBench x = bench(sorts(LONG, BYTE), sorts(LONG, BYTE));
        due("none at first", x.failed(0), NONE);
        due("none at first, rule", x.failed(1), NONE);
        due("none ahead of outside", x.failed(2), NONE);
        dueFailure("turn by a rule", x, x.turn(LONG, INT, LONGEST), 1, 3);
        due("what -1", x.failed(-1), OUTSIDE);
        due("what 2", x.failed(2), OUTSIDE);
        due("hand", x.hand(0, 1), 0);
        due("call", x.call(0, 0, 0), 0);
        due("stays behind one that went well", x.failed(1), 3);
        due("refused", x.call(0, 0, 5), EMPTY);
        due("stays behind a refused one", x.failed(0), 1);
        due("hand", x.hand(0, 128), 0);
        dueFailure("call by a sort", x, x.call(0, 0, 0), 0, NONE);
        dueFailure("turn by a rule again", x, x.turn(SHORT, SIGN, -5), 1, 11);
        dueFailure("through by a sort", x, x.through(0, 0, 0, 0), 0, NONE);
    }

    // ---- promise 25

    private static void count() {
        AdapterBench x = bench(sorts(LONG, BYTE), sorts(LONG, BYTE));
        due("what -1", x.count(-1), OUTSIDE);
        due("what 8", x.count(8), OUTSIDE);
        due("what far", x.count(MOST), OUTSIDE);
        due("rule", x.rule(0, 1, 1, 0), 12);
        due("object", x.object(0), 1);
        due("ask", x.ask(9, 7, 0), 0);
        due("ask", x.ask(9, 7, 0), 1);
        due("offer", x.offer(9, 7, 0), 0);
        Check.due("alias", x.alias(0, 1, true), true);
        Check.due("alias", x.alias(1, 0, true), true);
        due("constant", x.constant(6, true, 0), 0);
        due("call", x.call(0, 0, 0), 0);
        due("through", x.through(0, 0, 0, 0), 0);
        due("hand", x.hand(0, 1000), 0);
        due("call fails", x.call(1, 0, 0), FAILS);
        due("turn is no call", x.turn(0, 0, 0), 0);
        due("turn that fails is none", x.turn(0, 0, 1000), FAILS);
        int[] counts = {13, 2, 2, 1, 3, 2, 2, 1};
        for (int i = 0; i < counts.length; i++) {
            due("count " + i, x.count(i), counts[i]);
        }
    }

    // ---- all that is told changes what comes behind at once

    private static void toldAtOnce() {
        AdapterBench x = new AdapterBench();
        due("ask", x.ask(0, 0, sorts(LONG, BYTE)), 0);
        due("ask", x.ask(1, 1, sorts(LONG, BYTE)), 0);
        due("no way", x.way(0, 1, 0), NONE);
        Check.due("alias", x.alias(1, 0, true), true);
        due("a way by alias", x.way(0, 1, 0), 2);
        due("ask", x.ask(1, 1, sorts(LONG)), 1);
        due("no way for another member", x.way(0, 1, 0), NONE);
        due("constant", x.constant(BYTE, true, 4), 0);
        due("a way by a constant", x.way(0, 1, 0), 11);
        due("constant", x.constant(BYTE, false, 4), 1);
        due("no way without", x.way(0, 1, 0), NONE);
        due("ask", x.ask(0, 1, sorts(TENTHS)), 1);
        due("a way by a member more", x.way(0, 1, 0), 8);
        due("rule", x.rule(TENTHS, LONG, 2, 0), 12);
        due("a way by a cheaper rule", x.way(0, 1, 0), 4);
        due("drop", x.drop(12), 1);
        due("a way by the dearer one", x.way(0, 1, 0), 8);
        due("strip", x.strip(true, 1), 2);
        due("a way to an empty face", x.way(0, 1, 0), 0);
        Check.due("alias", x.alias(1, 0, false), true);
        due("ask", x.ask(1, 1, sorts(LONG, BYTE)), 0);
        due("a way by the own name, one left", x.way(0, 1, 0), 10);
        due("strip", x.strip(true, 0), 2);
        due("no way from an empty face", x.way(0, 1, 0), NONE);
    }
}
