/** The sentences of part 1 and of the promises 1 to 5 that name an edge, each with a test of its own. */
public final class EdgesOfRulesTest extends Dues {
    private EdgesOfRulesTest() {
    }

    public static void main(String[] args) {
        endsOfSorts();
        sameWider();
        sameNarrower();
        truths();
        tenfold();
        tenth();
        toldNumbers();
        twentyAtMost();
        notOfItsSort();
        workedOutExactly();
        rowOfRules();
        rowWithoutRules();
        leastCost();
        fewestRules();
        firstInOrder();
        nothingButRules();
        noMembersAtFirst();
        eachItsOwn();
        ruleSorts();
        ruleCost();
        ruleNumbers();
        ruleGivesItsNumber();
        ruleIsFull();
        fullStillWorks();
        dropTold();
        dropEmpty();
        turningWhat();
        turningOutside();
        turningNone();
        turnOutside();
        turnFailsBySort();
        turnFailsByRule();
        turnOrder();
        Check.end("EdgesOfRulesTest");
    }

    /** Turns v from one sort to another by that one RULE; it stays the same. */
    private static void dueSame(AdapterBench x, int rule, int from, int to, long... values) {
        due("rule " + rule + " is THE TURNING", x.turning(from, to, 2), rule);
        due("and no other", x.turning(from, to, 1), 1);
        for (long v : values) {
            dueTurn(x, from, to, v, v);
        }
    }

    private static void dueBroken(AdapterBench x, int rule, int from, int to, long... values) {
        for (long v : values) {
            long was = x.value();
            dueFailure("rule " + rule + " of " + v, x, x.turn(from, to, v), 1, rule);
            due("value stays", x.value(), was);
        }
    }

    // ---- part 1

    private static void endsOfSorts() {
        for (int sort = 0; sort < 7; sort++) {
            Check.sentence(sort + " " + SORT[sort] + " (" + FIRST[sort] + " .. " + LAST[sort] + ")");
            AdapterBench x = new AdapterBench();
            dueTurn(x, sort, sort, FIRST[sort], FIRST[sort]);
            dueTurn(x, sort, sort, LAST[sort], LAST[sort]);
            dueTurn(x, sort, sort, FIRST[sort] + 1, FIRST[sort] + 1);
            dueTurn(x, sort, sort, LAST[sort] - 1, LAST[sort] - 1);
            if (!isOf64(sort)) {
                dueFailure("below", x, x.turn(sort, sort, FIRST[sort] - 1), 0, NONE);
                dueFailure("above", x, x.turn(sort, sort, LAST[sort] + 1), 0, NONE);
                dueFailure("lowest", x, x.turn(sort, sort, LOWEST), 0, NONE);
                dueFailure("longest", x, x.turn(sort, sort, LONGEST), 0, NONE);
                // These would be of the sort if only their low bits were looked at.
                dueFailure("1 and 2^32", x, x.turn(sort, sort, 1L + (1L << 32)), 0, NONE);
                dueFailure("2^63 and 1", x, x.turn(sort, sort, LOWEST + 1), 0, NONE);
            }
        }
    }

    private static void sameWider() {
        AdapterBench x = new AdapterBench();
        Check.sentence("0 BYTE to SHORT: the same");
        dueSame(x, 0, BYTE, SHORT, -128, -1, 0, 127);
        Check.sentence("1 SHORT to INT: the same");
        dueSame(x, 1, SHORT, INT, -32768, -1, 0, 32767);
        Check.sentence("2 INT to LONG: the same");
        dueSame(x, 2, INT, LONG, FIRST[INT], -1, 0, LAST[INT]);
        Check.sentence("10 SIGN to SHORT: the same");
        dueSame(x, 10, SIGN, SHORT, 0, 1, 127);
        Check.sentence("each 1 (of 0, 1, 2), each 5 (of 3, 4, 5), 2 (of 6), 6 (of 7), 3 (of 8), 6, 2, 5 (of 9 to 11)");
        int[] costs = {x.turning(BYTE, SHORT, 0), x.turning(SHORT, INT, 0), x.turning(INT, LONG, 0),
            x.turning(LONG, INT, 0), x.turning(INT, SHORT, 0), x.turning(SHORT, BYTE, 0), x.turning(TRUTH, BYTE, 0),
            x.turning(INT, TRUTH, 0), x.turning(LONG, TENTHS, 0), x.turning(TENTHS, LONG, 0),
            x.turning(SIGN, SHORT, 0), x.turning(SHORT, SIGN, 0)};
        int[] told = {1, 1, 1, 5, 5, 5, 2, 6, 3, 6, 2, 5};
        for (int i = 0; i < 12; i++) {
            due("cost of rule " + i, costs[i], told[i]);
        }
    }

    private static void sameNarrower() {
        AdapterBench x = new AdapterBench();
        Check.sentence("3 LONG to INT: the same; what is not of its sort FAILS");
        dueSame(x, 3, LONG, INT, FIRST[INT], 0, LAST[INT]);
        dueBroken(x, 3, LONG, INT, FIRST[INT] - 1, LAST[INT] + 1, 1L << 32, LOWEST, LONGEST);
        Check.sentence("4 INT to SHORT: the same; what is not of its sort FAILS");
        dueSame(x, 4, INT, SHORT, -32768, 0, 32767);
        dueBroken(x, 4, INT, SHORT, -32769, 32768, 65536, FIRST[INT], LAST[INT]);
        Check.sentence("5 SHORT to BYTE: the same; what is not of its sort FAILS");
        dueSame(x, 5, SHORT, BYTE, -128, 0, 127);
        dueBroken(x, 5, SHORT, BYTE, -129, 128, 256, -32768, 32767);
        Check.sentence("11 SHORT to SIGN: the same; what is not of its sort FAILS");
        dueSame(x, 11, SHORT, SIGN, 0, 1, 127);
        dueBroken(x, 11, SHORT, SIGN, -1, 128, -32768, 32767);
    }

    private static void truths() {
        AdapterBench x = new AdapterBench();
        Check.sentence("6 TRUTH to BYTE: the same");
        dueSame(x, 6, TRUTH, BYTE, 0, 1);
        Check.sentence("7 INT to TRUTH: 0 of 0, else 1");
        dueSame(x, 7, INT, TRUTH, 0, 1);
        long[] others = {-1, 2, 256, 1 << 30, FIRST[INT], LAST[INT]};
        for (long v : others) {
            dueTurn(x, INT, TRUTH, v, 1);
        }
    }

    private static void tenfold() {
        AdapterBench x = new AdapterBench();
        Check.sentence("8 LONG to TENTHS: ten times it");
        due("rule 8", x.turning(LONG, TENTHS, 2), 8);
        dueTurn(x, LONG, TENTHS, 0, 0);
        dueTurn(x, LONG, TENTHS, -1, -10);
        dueTurn(x, LONG, TENTHS, 922337203685477580L, 9223372036854775800L);
        dueTurn(x, LONG, TENTHS, -922337203685477580L, -9223372036854775800L);
        dueBroken(x, 8, LONG, TENTHS, 922337203685477581L, -922337203685477581L, LONGEST, LOWEST, 1L << 62, 1L << 61);
    }

    private static void tenth() {
        AdapterBench x = new AdapterBench();
        Check.sentence("9 TENTHS to LONG: a tenth, towards 0");
        due("rule 9", x.turning(TENTHS, LONG, 2), 9);
        long[][] pairs = {{0, 0}, {9, 0}, {-9, 0}, {10, 1}, {-10, -1}, {19, 1}, {-19, -1}, {20, 2}, {-20, -2},
            {LONGEST, 922337203685477580L}, {LOWEST, -922337203685477580L}};
        for (long[] pair : pairs) {
            dueTurn(x, TENTHS, LONG, pair[0], pair[1]);
        }
    }

    private static void toldNumbers() {
        Check.sentence("From 12 on those told by rule(): the value times a number, and a number more");
        int[] ends = {-1000, -999, -1, 0, 1, 999, 1000};
        for (int times : ends) {
            for (int plus : ends) {
                AdapterBench x = new AdapterBench();
                due("rule", x.rule(BYTE, TENTHS, 1, numbers(times, plus)), 12);
                dueTurn(x, BYTE, TENTHS, 127, 127 * times + plus);
                dueTurn(x, BYTE, TENTHS, -128, -128 * times + plus);
                dueTurn(x, BYTE, TENTHS, 0, plus);
            }
        }
    }

    private static void twentyAtMost() {
        Check.sentence("those told by rule(), 20 at most");
        AdapterBench x = new AdapterBench();
        for (int i = 0; i < 20; i++) {
            due("rule " + i, x.rule(SIGN, TENTHS, 1, numbers(0, i)), 12 + i);
        }
        due("one more", x.rule(SIGN, TENTHS, 1, numbers(0, 0)), FULL);
        due("count", x.count(0), 32);
        for (int i = 0; i < 20; i++) {
            dueTurning("each is there", x, SIGN, TENTHS, 1, 12 + i);
            dueTurn(x, SIGN, TENTHS, 100, i);
            due("drop", x.drop(12 + i), 1);
        }
    }

    private static void notOfItsSort() {
        for (int sort = 0; sort < 7; sort++) {
            Check.sentence("What a RULE makes that is not of its sort FAILS: " + SORT[sort]);
            int from = sort == LONG ? TENTHS : LONG;
            AdapterBench x = new AdapterBench();
            due("rule", x.rule(from, sort, 1, numbers(1, 0)), 12);
            dueTurn(x, from, sort, FIRST[sort], FIRST[sort]);
            dueTurn(x, from, sort, LAST[sort], LAST[sort]);
            if (!isOf64(sort)) {
                dueBroken(x, 12, from, sort, FIRST[sort] - 1, LAST[sort] + 1, LOWEST, LONGEST, 1L << 32, 1L << 40);
            }
            due("drop", x.drop(12), 1);
            due("rule", x.rule(from, sort, 1, numbers(1, 1)), 13);
            dueTurn(x, from, sort, LAST[sort] - 1, LAST[sort]);
            dueBroken(x, 13, from, sort, LAST[sort]);
            due("drop", x.drop(13), 1);
            due("rule", x.rule(from, sort, 1, numbers(1, -1)), 14);
            dueTurn(x, from, sort, FIRST[sort] + 1, FIRST[sort]);
            dueBroken(x, 14, from, sort, FIRST[sort]);
        }
    }

    /** One told RULE from LONG to TENTHS: the numbers, a value, and what is due (or none: it FAILS). */
    private static void dueExact(int times, int plus, long v, Long want) {
        AdapterBench x = new AdapterBench();
        due("rule", x.rule(LONG, TENTHS, 1, numbers(times, plus)), 12);
        if (want == null) {
            dueBroken(x, 12, LONG, TENTHS, v);
        } else {
            dueTurn(x, LONG, TENTHS, v, want);
        }
    }

    private static void workedOutExactly() {
        Check.sentence("What a RULE makes that is not of its sort FAILS (worked out exactly)");
        // The product is beyond 64 bits, what the RULE makes is not.
        dueExact(2, -1, 1L << 62, LONGEST);
        dueExact(2, 0, 1L << 62, null);
        dueExact(2, -2, (1L << 62) + 1, null);
        dueExact(2, -3, (1L << 62) + 1, LONGEST);
        dueExact(2, 1, -(1L << 62) - 1, null);
        dueExact(2, 2, -(1L << 62) - 1, LOWEST);
        dueExact(-1, 0, LOWEST, null);
        dueExact(-1, -1, LOWEST, LONGEST);
        dueExact(-1, -1, LONGEST, LOWEST);
        dueExact(-1, -2, LONGEST, null);
        dueExact(1000, 807, 9223372036854775L, LONGEST);
        dueExact(1000, 808, 9223372036854775L, null);
        dueExact(1000, -193, 9223372036854776L, LONGEST);
        dueExact(1000, -192, 9223372036854776L, null);
        dueExact(1000, 192, -9223372036854776L, LOWEST);
        dueExact(1000, 191, -9223372036854776L, null);
        dueExact(-1000, 192, 9223372036854776L, LOWEST);
        dueExact(-1000, 191, 9223372036854776L, null);
        dueExact(-1000, -193, -9223372036854776L, LONGEST);
        dueExact(-1000, -192, -9223372036854776L, null);
        dueExact(0, 1000, LONGEST, 1000L);
        dueExact(0, -1000, LOWEST, -1000L);
        dueExact(1000, 1000, LONGEST, null);
        dueExact(1000, -1000, LOWEST, null);
        dueExact(-1000, 1000, LOWEST, null);
        // 2^61 * 8 and the like come back to 0 in 64 bits.
        dueExact(8, 0, 1L << 61, null);
        dueExact(1000, 0, 1L << 61, null);
        dueExact(512, 5, 1L << 55, null);
    }

    private static void rowOfRules() {
        Check.sentence("A TURNING is a row of RULES, each from the sort that the one before it makes");
        AdapterBench x = new AdapterBench();
        dueTurning("longest of the built-in ones", x, TRUTH, TENTHS, 8, 6, 0, 1, 2, 8);
        dueTurn(x, TRUTH, TENTHS, 1, 10);
        dueTurning("all sorts but one", x, TENTHS, BYTE, 19, 9, 3, 7, 6);
        // A row that passes all seven sorts; the built-in short cuts are dearer.
        AdapterBench y = new AdapterBench();
        int[] passed = {LONG, TENTHS, INT, SHORT, SIGN, BYTE, TRUTH};
        for (int i = 0; i < 6; i++) {
            due("rule", y.rule(passed[i], passed[i + 1], 1, i == 2 ? numbers(-1, 1) : numbers(1, 0)), 12 + i);
        }
        dueTurning("the longest there can be", y, LONG, TRUTH, 6, 12, 13, 14, 15, 16, 17);
        dueTurn(y, LONG, TRUTH, 0, 1);
        dueTurn(y, LONG, TRUTH, 1, 0);
        dueBroken(y, 13, LONG, TRUTH, LAST[INT] + 1);
        dueBroken(y, 15, LONG, TRUTH, 2);
        dueBroken(y, 17, LONG, TRUTH, -1);
    }

    private static void rowWithoutRules() {
        Check.sentence("from a sort to itself also the row without RULES");
        AdapterBench x = new AdapterBench();
        due("rule", x.rule(INT, SHORT, 1, numbers(0, 5)), 12);
        due("rule", x.rule(SHORT, INT, 1, numbers(0, 5)), 13);
        for (int sort = 0; sort < 7; sort++) {
            dueTurning("itself", x, sort, sort, 0);
            dueTurn(x, sort, sort, 1, 1);
        }
    }

    private static void leastCost() {
        Check.sentence("THE TURNING is the one of least COST");
        AdapterBench x = new AdapterBench();
        due("rule", x.rule(LONG, SHORT, 11, numbers(1, 0)), 12);
        dueTurning("11 is more than 5 and 5", x, LONG, SHORT, 10, 3, 4);
        due("rule", x.rule(LONG, SHORT, 9, numbers(1, 0)), 13);
        dueTurning("9 is less", x, LONG, SHORT, 9, 13);
        due("rule", x.rule(BYTE, TENTHS, 7, numbers(1, 0)), 14);
        dueTurning("7 is more than 1 and 1 and 1 and 3", x, BYTE, TENTHS, 6, 0, 1, 2, 8);
    }

    private static void fewestRules() {
        Check.sentence("of several that of fewest RULES");
        AdapterBench x = new AdapterBench();
        due("rule", x.rule(LONG, SHORT, 10, numbers(1, 0)), 12);
        dueTurning("one against two", x, LONG, SHORT, 10, 12);
        due("rule", x.rule(BYTE, LONG, 3, numbers(1, 0)), 13);
        dueTurning("one against three", x, BYTE, LONG, 3, 13);
        dueTurning("two against four", x, BYTE, TENTHS, 6, 13, 8);
        due("rule", x.rule(SHORT, TENTHS, 5, numbers(1, 0)), 14);
        dueTurning("two against two: the first", x, BYTE, TENTHS, 6, 0, 14);
        due("rule", x.rule(BYTE, TENTHS, 6, numbers(1, 0)), 15);
        dueTurning("one against two and two", x, BYTE, TENTHS, 6, 15);
    }

    private static void firstInOrder() {
        Check.sentence("of these that whose numbers of RULES are first in order (compared from the first RULE on)");
        AdapterBench x = new AdapterBench();
        due("rule", x.rule(TRUTH, SHORT, 1, numbers(1, 0)), 12);
        due("rule", x.rule(TRUTH, INT, 1, numbers(1, 0)), 13);
        due("rule", x.rule(INT, TENTHS, 1, numbers(1, 0)), 14);
        due("rule", x.rule(SHORT, TENTHS, 1, numbers(1, 0)), 15);
        dueTurning("the first RULE counts first", x, TRUTH, TENTHS, 2, 12, 15);
        due("rule", x.rule(SHORT, TENTHS, 1, numbers(1, 0)), 16);
        dueTurning("then the second", x, TRUTH, TENTHS, 2, 12, 15);
        due("drop", x.drop(15), 1);
        dueTurning("the second is gone", x, TRUTH, TENTHS, 2, 12, 16);
        due("drop", x.drop(12), 1);
        dueTurning("the first is gone", x, TRUTH, TENTHS, 2, 13, 14);
        due("rule", x.rule(TENTHS, LONG, 6, numbers(1, 0)), 17);
        dueTurning("as numbers: 9 ahead of 17", x, TENTHS, LONG, 6, 9);
        due("rule", x.rule(INT, LONG, 1, numbers(1, 0)), 18);
        dueTurning("as numbers: 2 ahead of 18", x, INT, LONG, 1, 2);
    }

    // ---- promise 1

    private static void nothingButRules() {
        Check.sentence("Nothing but the RULES 0 to 11");
        AdapterBench x = new AdapterBench();
        for (int what = 0; what < 8; what++) {
            due("count " + what, x.count(what), what == 0 ? 12 : 0);
        }
        due("value", x.value(), 0);
        due("failed", x.failed(0), NONE);
        due("failed", x.failed(1), NONE);
        for (int i = 0; i < 20; i++) {
            due("no object " + i, x.put(i, 0, 1), EMPTY);
        }
        for (int sort = 0; sort < 7; sort++) {
            due("no constant " + sort, x.constant(sort, false, 0), 0);
        }
        due("no rule 12", x.drop(12), EMPTY);
        due("no alias", x.alias(0, 1, false), false);
        AdapterBench y = bench(sorts(LONG, LONG, LONG, LONG, LONG), sorts(LONG, LONG, LONG, LONG, LONG));
        due("nothing in hand", y.call(0, 0, 0), 0);
        due("nothing in hand", y.value(), 0);
    }

    private static void noMembersAtFirst() {
        Check.sentence("FACES and CLASSES without MEMBERS");
        AdapterBench x = new AdapterBench();
        for (int i = 0; i < 10; i++) {
            due("face " + i, x.strip(true, i), 0);
            due("class " + i, x.strip(false, i), 0);
            due("no member of face " + i, x.fit(i, 0, i, 0), EMPTY);
            due("no member of class " + i, x.work(i, 0, FORMULA, NONE, 0), EMPTY);
        }
    }

    private static void eachItsOwn() {
        Check.sentence("A new object: Nothing but .. (whatever others were told)");
        AdapterBench x = bench(sorts(LONG, LONG), sorts(LONG, LONG));
        due("rule", x.rule(LONG, INT, 1, 0), 12);
        due("alias", x.alias(1, 2, true), true);
        due("constant", x.constant(LONG, true, 5), 0);
        due("hand", x.hand(0, 8), 0);
        due("put", x.put(0, 0, 9), 0);
        due("call", x.call(0, 0, 0), 0);
        due("turn", x.turn(BYTE, BYTE, 128), FAILS);
        AdapterBench y = new AdapterBench();
        for (int what = 0; what < 8; what++) {
            due("count " + what, y.count(what), what == 0 ? 12 : 0);
        }
        due("value", y.value(), 0);
        due("failed", y.failed(0), NONE);
        dueTurning("built-in", y, LONG, INT, 5, 3);
        due("object", y.object(0), 0);
        due("field", y.field(0, 0), 0);
        due("the older one's stays", x.field(0, 0), 9);
        due("the older one's stays", x.value(), 8);
        dueTurning("told", x, LONG, INT, 1, 12);
    }

    // ---- promise 2

    private static void ruleSorts() {
        Check.sentence("One RULE more, from a sort to another one; OUTSIDE: sorts, the same ones");
        AdapterBench x = new AdapterBench();
        int[] wrong = {-1, 7, 8, LEAST, MOST};
        for (int sort : wrong) {
            due("from " + sort, x.rule(sort, 0, 1, 0), OUTSIDE);
            due("to " + sort, x.rule(0, sort, 1, 0), OUTSIDE);
            due("both " + sort, x.rule(sort, sort, 1, 0), OUTSIDE);
        }
        for (int sort = 0; sort < 7; sort++) {
            due("from and to " + sort, x.rule(sort, sort, 1, numbers(1, 0)), OUTSIDE);
        }
        due("none told", x.count(0), 12);
        for (int sort = 0; sort < 7; sort++) {
            due("from " + sort, x.rule(sort, (sort + 3) % 7, 1, numbers(1, 0)), 12 + 2 * sort);
            due("to " + sort, x.rule((sort + 2) % 7, sort, 1, numbers(1, 0)), 13 + 2 * sort);
            due("is there", x.turning(sort, (sort + 3) % 7, 2), 12 + 2 * sort);
            due("is there, too", x.turning((sort + 2) % 7, sort, 0), 1);
        }
    }

    private static void ruleCost() {
        Check.sentence("of a COST 1 .. 50");
        AdapterBench x = new AdapterBench();
        int[] wrong = {0, -1, 51, 52, LEAST, MOST};
        for (int cost : wrong) {
            due("cost " + cost, x.rule(BYTE, SIGN, cost, 0), OUTSIDE);
        }
        due("none told", x.turning(BYTE, SIGN, 0), 6);
        due("cost 50", x.rule(TENTHS, SIGN, 50, 0), 12);
        due("not taken", x.turning(TENTHS, SIGN, 0), 21);
        due("cost 2", x.rule(BYTE, SIGN, 2, 0), 13);
        due("taken", x.turning(BYTE, SIGN, 0), 2);
        due("cost 1", x.rule(BYTE, SIGN, 1, 0), 14);
        due("taken, too", x.turning(BYTE, SIGN, 0), 1);
        due("count", x.count(0), 15);
    }

    private static void ruleNumbers() {
        Check.sentence("numbers (0 .. 20002000, each part 0 .. 2000), told as 10000 * (times and 1000) and (plus and 1000)");
        AdapterBench x = new AdapterBench();
        int[] wrong = {-1, -10000, -20002000, LEAST, 2001, 2002, 9999, 12001, 10002001, 10009999, 20002001, 20003000,
            20009999, 20010000, 20011000, 100000000, MOST};
        for (int numbers : wrong) {
            due("numbers " + numbers, x.rule(BYTE, TENTHS, 1, numbers), OUTSIDE);
        }
        due("none told", x.count(0), 12);
        int[] right = {0, 1, 2000, 10000, 12000, 9999999 / 10000 * 10000, 10000000, 10001000, 20000000, 20002000};
        for (int i = 0; i < right.length; i++) {
            AdapterBench y = new AdapterBench();
            due("numbers " + right[i], y.rule(BYTE, TENTHS, 1, right[i]), 12);
            int times = right[i] / 10000 - 1000, plus = right[i] % 10000 - 1000;
            dueTurn(y, BYTE, TENTHS, 100, 100 * times + plus);
            dueTurn(y, BYTE, TENTHS, -3, -3 * times + plus);
        }
    }

    private static void ruleGivesItsNumber() {
        Check.sentence("its number");
        AdapterBench x = new AdapterBench();
        due("the first", x.rule(BYTE, SIGN, 3, numbers(1, 0)), 12);
        due("refused", x.rule(BYTE, BYTE, 3, numbers(1, 0)), OUTSIDE);
        due("the next", x.rule(BYTE, SIGN, 2, numbers(1, 0)), 13);
        due("drop", x.drop(13), 1);
        due("a dropped number is not given again", x.rule(BYTE, SIGN, 1, numbers(1, 0)), 14);
        dueTurning("it is that RULE's", x, BYTE, SIGN, 1, 14);
    }

    private static AdapterBench full() {
        AdapterBench x = new AdapterBench();
        for (int i = 0; i < 20; i++) {
            due("rule", x.rule(BYTE, SIGN, 5, numbers(1, i)), 12 + i);
        }
        return x;
    }

    private static void ruleIsFull() {
        Check.sentence("FULL: 20 were told (dropped ones, too)");
        AdapterBench x = full();
        due("the 21st", x.rule(BYTE, SIGN, 1, numbers(1, 0)), FULL);
        dueTurning("is not there", x, BYTE, SIGN, 5, 12);
        for (int i = 12; i < 32; i++) {
            due("drop " + i, x.drop(i), 1);
            due("still full", x.rule(BYTE, SIGN, 1, numbers(1, 0)), FULL);
            due("count", x.count(0), 43 - i);
        }
        dueTurning("only built-in ones", x, BYTE, SIGN, 6, 0, 11);
        due("dropped at once, told all along", told20WithDrops(), FULL);
    }

    private static int told20WithDrops() {
        AdapterBench x = new AdapterBench();
        for (int i = 12; i < 32; i++) {
            due("rule", x.rule(BYTE, SIGN, 5, numbers(1, 0)), i);
            due("drop", x.drop(i), 1);
        }
        return x.rule(BYTE, SIGN, 5, numbers(1, 0));
    }

    private static void fullStillWorks() {
        Check.sentence("FULL: no room; what still works when RULES are full");
        AdapterBench x = full();
        due("outside ahead of full: sort", x.rule(7, SIGN, 5, 0), OUTSIDE);
        due("outside ahead of full: same", x.rule(SIGN, SIGN, 5, 0), OUTSIDE);
        due("outside ahead of full: cost", x.rule(BYTE, SIGN, 0, 0), OUTSIDE);
        due("outside ahead of full: numbers", x.rule(BYTE, SIGN, 5, -1), OUTSIDE);
        dueTurn(x, BYTE, SIGN, 9, 9);
        due("drop", x.drop(12), 1);
        dueTurn(x, BYTE, SIGN, 9, 10);
        due("drop the last", x.drop(31), 1);
        due("drop the last but one", x.drop(30), 1);
        dueTurning("the next one", x, BYTE, SIGN, 5, 13);
        due("ask", x.ask(0, 0, sorts(SIGN)), 0);
        due("offer", x.offer(0, 0, sorts(BYTE)), 0);
        due("fits", x.fits(0, 0), 5);
    }

    // ---- promise 3

    private static void dropTold() {
        Check.sentence("A told RULE (12 and above) is no more: 1");
        AdapterBench x = full();
        due("the last", x.drop(31), 1);
        due("the first", x.drop(12), 1);
        due("one between", x.drop(20), 1);
        due("count", x.count(0), 29);
        dueTurning("the others stay", x, BYTE, SIGN, 5, 13);
        due("once more", x.drop(31), EMPTY);
        due("once more", x.drop(12), EMPTY);
        due("once more", x.drop(20), EMPTY);
        due("count stays", x.count(0), 29);
    }

    private static void dropEmpty() {
        Check.sentence("EMPTY (there is no such rule)");
        AdapterBench x = new AdapterBench();
        for (int rule = 0; rule < 12; rule++) {
            due("built-in rule " + rule, x.drop(rule), EMPTY);
        }
        int[] none = {12, 13, 31, 32, 33, -1, -12, LEAST, MOST};
        for (int rule : none) {
            due("rule " + rule, x.drop(rule), EMPTY);
        }
        due("count stays", x.count(0), 12);
        dueTurning("built-in ones stay", x, TRUTH, TENTHS, 8, 6, 0, 1, 2, 8);
        AdapterBench y = full();
        due("one behind the last", y.drop(32), EMPTY);
        due("built-in, when full", y.drop(11), EMPTY);
        due("count stays", y.count(0), 32);
    }

    // ---- promise 4

    private static void turningWhat() {
        Check.sentence("what 0 its COST, 1 how many RULES, 2 and above: RULE what - 2 of it");
        AdapterBench x = new AdapterBench();
        int[] due = {8, 5, 6, 0, 1, 2, 8, NONE, NONE, NONE};
        for (int what = 0; what < due.length; what++) {
            due("what " + what, x.turning(TRUTH, TENTHS, what), due[what]);
        }
        due("one RULE: what 2", x.turning(SHORT, SIGN, 2), 11);
        due("one RULE: what 3", x.turning(SHORT, SIGN, 3), NONE);
    }

    private static void turningOutside() {
        Check.sentence("turning: OUTSIDE: sorts, what below 0");
        AdapterBench x = new AdapterBench();
        int[] wrong = {-1, 7, LEAST, MOST};
        for (int sort : wrong) {
            due("from " + sort, x.turning(sort, 0, 0), OUTSIDE);
            due("to " + sort, x.turning(0, sort, 0), OUTSIDE);
            due("both " + sort, x.turning(sort, sort, 5), OUTSIDE);
        }
        due("what -1", x.turning(0, 1, -1), OUTSIDE);
        due("what lowest", x.turning(6, 6, LEAST), OUTSIDE);
        due("ahead of none", x.turning(7, 0, MOST), OUTSIDE);
        due("ends of sorts", x.turning(0, 6, 0), 6);
        due("ends of sorts", x.turning(6, 0, 0), 7);
    }

    private static void turningNone() {
        Check.sentence("turning: NONE: there is none such");
        AdapterBench x = new AdapterBench();
        for (int sort = 0; sort < 7; sort++) {
            due("itself: what 2", x.turning(sort, sort, 2), NONE);
            due("far", x.turning(sort, (sort + 1) % 7, MOST), NONE);
            due("what 8", x.turning(sort, (sort + 1) % 7, 8), NONE);
            due("what behind the last", x.turning(sort, 3, 2 + x.turning(sort, 3, 1)), NONE);
        }
    }

    // ---- promise 5

    private static void turnOutside() {
        Check.sentence("turn: OUTSIDE: sorts");
        AdapterBench x = new AdapterBench();
        dueTurn(x, SIGN, SIGN, 5, 5);
        int[] wrong = {-1, 7, LEAST, MOST};
        for (int sort : wrong) {
            due("from " + sort, x.turn(sort, 0, 0), OUTSIDE);
            due("to " + sort, x.turn(0, sort, 0), OUTSIDE);
            due("both " + sort, x.turn(sort, sort, 0), OUTSIDE);
        }
        due("value stays", x.value(), 5);
        due("nothing failed", x.failed(0), NONE);
    }

    private static void turnFailsBySort() {
        for (int sort = 0; sort < 7; sort++) {
            if (!isOf64(sort)) {
                Check.sentence("FAILS: it is not of the first one: " + SORT[sort]);
                AdapterBench x = new AdapterBench();
                for (int to = 0; to < 7; to++) {
                    dueTurn(x, sort, sort, 1, 1);
                    dueFailure("below", x, x.turn(sort, to, FIRST[sort] - 1), 0, NONE);
                    dueFailure("above", x, x.turn(sort, to, LAST[sort] + 1), 0, NONE);
                    due("value stays", x.value(), 1);
                }
            }
        }
    }

    private static void turnFailsByRule() {
        Check.sentence("FAILS: or by a RULE");
        AdapterBench x = new AdapterBench();
        dueTurn(x, LONG, LONG, 77, 77);
        dueBroken(x, 3, LONG, SIGN, LAST[INT] + 1);
        dueBroken(x, 4, LONG, SIGN, LAST[INT], 32768, -32769);
        dueBroken(x, 11, LONG, SIGN, 32767, -32768, 128, -1);
        dueTurn(x, LONG, SIGN, 127, 127);
        // The first that FAILS ends it, though the next one would make 5 of anything.
        due("rule", x.rule(INT, BYTE, 1, numbers(0, 5)), 12);
        dueTurning("row", x, LONG, BYTE, 6, 3, 12);
        dueBroken(x, 3, LONG, BYTE, LAST[INT] + 1, FIRST[INT] - 1);
        dueTurn(x, LONG, BYTE, LAST[INT], 5);
    }

    private static void turnOrder() {
        Check.sentence("(Asked in the order OUTSIDE, NONE, FAILS.)");
        AdapterBench x = new AdapterBench();
        due("outside ahead of fails", x.turn(BYTE, 7, 128), OUTSIDE);
        due("outside ahead of fails", x.turn(BYTE, -1, LOWEST), OUTSIDE);
        due("not noted", x.failed(0), NONE);
        due("a value that is not of its sort ahead of a RULE", x.turn(INT, SHORT, LONGEST), FAILS);
        due("where", x.failed(0), 0);
        due("rule", x.failed(1), NONE);
        due("by a RULE", x.turn(INT, SHORT, LAST[INT]), FAILS);
        due("where", x.failed(0), 1);
        due("rule", x.failed(1), 4);
    }
}
