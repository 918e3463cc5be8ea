/** The sentences of part 4 and of the promises 17 to 25 that name an edge, each with a test of its own. */
public final class EdgesOfCallsTest extends Dues {
    private static final int[] NO_SHAPE = {-1, 10, 11, 20, LEAST, MOST};

    private EdgesOfCallsTest() {
    }

    public static void main(String[] args) {
        twentyObjects();
        fieldsAtFirst();
        handAtFirst();
        handOfItsSort();
        handAheadOfAll();
        argumentsInOrder();
        ruleByRule();
        constantsGiven();
        notTakenIsNotTurned();
        workBehindArguments();
        resultsTurnedBack();
        writeStays();
        shapeByShape();
        toldAtOnce();
        fiveHundredAndTwelve();
        objectOutside();
        objectIsFull();
        putEmpty();
        putOutside();
        putEnds();
        fieldWithout();
        handOutside();
        handEnds();
        callEmptyObject();
        callOutside();
        callEmptyMember();
        callGap();
        callFails();
        throughEmptyObject();
        throughOutside();
        throughNone();
        throughEmptyMember();
        throughGap();
        throughOrder();
        throughItself();
        throughAllFaces();
        valueAtFirst();
        valueOfLatest();
        failedWhere();
        failedLatest();
        failedNone();
        failedOutside();
        countEach();
        countOutside();
        countCalls();
        Check.end("EdgesOfCallsTest");
    }

    // ---- part 4

    private static void twentyObjects() {
        Check.sentence("OBJECTS 0 .. 19 are each of a CLASS");
        AdapterBench x = new AdapterBench();
        due("ask", x.ask(0, 1, sorts(LONG)), 0);
        for (int i = 0; i < 10; i++) {
            due("offer", x.offer(i, 1, sorts(LONG)), 0);
            due("work", x.work(i, 0, FORMULA, NONE, i), 0);
        }
        for (int i = 0; i < 20; i++) {
            due("object " + i, x.object((7 * i + 3) % 10), i);
        }
        for (int i = 0; i < 20; i++) {
            dueResult("its class", x, x.call(i, 0, 0), (7 * i + 3) % 10);
        }
        due("no object 20", x.call(20, 0, 0), EMPTY);
    }

    private static void fieldsAtFirst() {
        Check.sentence("their FIELDS 0 at first");
        AdapterBench x = new AdapterBench();
        for (int i = 0; i < 20; i++) {
            due("object", x.object(0), i);
            for (int field = 0; field < 3; field++) {
                due("0 at first", x.field(i, field), 0);
                due("put", x.put(i, field, 100 * i + field + 1), 0);
            }
        }
        for (int i = 0; i < 60; i++) {
            due("each its own", x.field(i / 3, i % 3), 100 * (i / 3) + i % 3 + 1);
        }
    }

    private static void handAtFirst() {
        Check.sentence("IN HAND are four values (0 at first)");
        int four = sorts(LONG, LONG, LONG, LONG, LONG);
        AdapterBench x = bench(four, four);
        dueResult("0 at first", x, x.call(0, 0, 0), 0);
        for (int i = 0; i < 4; i++) {
            due("times", x.times(0, 0, i, i == 0 ? 1000 : i == 1 ? 100 : i == 2 ? 10 : 1), 1);
        }
        hold(x, 1, 2, 3, 4);
        dueResult("each its own", x, x.call(0, 0, 0), 1234);
        due("one of them", x.hand(2, 9), 0);
        dueResult("the others stay", x, x.call(0, 0, 0), 1294);
    }

    private static void handOfItsSort() {
        for (int sort = 0; sort < 7; sort++) {
            Check.sentence("IN HAND are the ARGUMENTS of the first one; one that is not of its sort FAILS: " + SORT[sort]);
            for (int place = 0; place < 4; place++) {
                int[] four = {LONG, LONG, LONG, LONG};
                four[place] = sort;
                AdapterBench x = bench(sorts(LONG, four), sorts(LONG, four));
                due("first", x.hand(place, FIRST[sort]), 0);
                dueResult("first", x, x.call(0, 0, 0), FIRST[sort]);
                due("last", x.hand(place, LAST[sort]), 0);
                dueResult("last", x, x.call(0, 0, 0), LAST[sort]);
                if (!isOf64(sort)) {
                    due("below", x.hand(place, FIRST[sort] - 1), 0);
                    dueFailure("below", x, x.call(0, 0, 0), 0, NONE);
                    due("above", x.hand(place, LAST[sort] + 1), 0);
                    dueFailure("above", x, x.through(0, 0, 0, 0), 0, NONE);
                    due("far", x.hand(place, LOWEST), 0);
                    dueFailure("far", x, x.call(0, 0, 0), 0, NONE);
                }
                due("value stays", x.value(), LAST[sort]);
            }
        }
    }

    private static void handAheadOfAll() {
        Check.sentence("one that is not of its sort FAILS ahead of all");
        // The first would FAIL by a RULE, the second is no TRUTH: that is told, though none takes it.
        AdapterBench x = bench(sorts(LONG, LONG, TRUTH), sorts(LONG, INT));
        dueFit("the second is left over", x, 0, 9, 0, 0);
        hold(x, LONGEST, 2);
        dueFailure("ahead of a RULE", x, x.call(0, 0, 0), 0, NONE);
        hold(x, LONGEST, 1);
        dueFailure("then the RULE", x, x.call(0, 0, 0), 1, 3);
        hold(x, 5, -1);
        dueFailure("of one that none takes", x, x.call(0, 0, 0), 0, NONE);
        due("work", x.work(0, 0, WRITE, 0, 0), 0);
        dueFailure("ahead of the WORK", x, x.call(0, 0, 0), 0, NONE);
        due("nothing was written", x.field(0, 0), 0);
        hold(x, 5, 0, LONGEST, LONGEST);
        dueResult("those behind are none of its ARGUMENTS", x, x.call(0, 0, 0), 0);
        due("written", x.field(0, 0), 5);
    }

    private static void argumentsInOrder() {
        Check.sentence("for each ARGUMENT of that MEMBER, in order, f's is turned; The first that FAILS ends the CALL");
        // c asks for a SIGN, then an INT; f has a LONG, then a SHORT: they change places.
        AdapterBench x = bench(sorts(LONG, LONG, SHORT), sorts(LONG, SIGN, INT));
        dueFit("changed", x, 0, 12, 0, 1, 0);
        hold(x, LONGEST, -1);
        dueFailure("c's first ahead of f's first", x, x.call(0, 0, 0), 1, 11);
        hold(x, LONGEST, 0);
        dueFailure("then c's second", x, x.call(0, 0, 0), 1, 3);
        hold(x, 1000, 127);
        dueResult("then none", x, x.call(0, 0, 0), 1127);
    }

    private static void ruleByRule() {
        Check.sentence("f's is turned, RULE by RULE");
        AdapterBench x = bench(sorts(LONG, TENTHS), sorts(LONG, SIGN));
        dueFit("by 9, 3, 4, 11", x, 0, 21, 0, 0);
        hold(x, LONGEST);
        dueFailure("3", x, x.call(0, 0, 0), 1, 3);
        hold(x, 10 * (LAST[INT] + 1));
        dueFailure("3 still", x, x.call(0, 0, 0), 1, 3);
        hold(x, 10 * (LAST[INT] + 1) - 1);
        dueFailure("4", x, x.call(0, 0, 0), 1, 4);
        hold(x, 327680);
        dueFailure("4 still", x, x.call(0, 0, 0), 1, 4);
        hold(x, 327679);
        dueFailure("11", x, x.call(0, 0, 0), 1, 11);
        hold(x, 1280);
        dueFailure("11 still", x, x.call(0, 0, 0), 1, 11);
        hold(x, -10);
        dueFailure("11 below", x, x.call(0, 0, 0), 1, 11);
        hold(x, 1279);
        dueResult("a SIGN", x, x.call(0, 0, 0), 127);
        hold(x, -9);
        dueResult("towards 0", x, x.call(0, 0, 0), 0);
    }

    private static void constantsGiven() {
        Check.sentence("(or it is the CONSTANT)");
        AdapterBench x = bench(sorts(LONG, LONG), sorts(LONG, LONG, SIGN, SIGN));
        due("constant", x.constant(SIGN, true, 127), 0);
        due("times", x.times(0, 0, 1, 1000), 1);
        dueFit("two CONSTANTS", x, 0, 14, 0, 0, 9, 9);
        hold(x, 5);
        dueResult("both given", x, x.call(0, 0, 0), 127132);
        due("another", x.constant(SIGN, true, 0), 1);
        dueResult("at once", x, x.call(0, 0, 0), 5);
        AdapterBench y = bench(sorts(LONG), sorts(LONG, LONG));
        due("constant", y.constant(LONG, true, LOWEST), 0);
        dueResult("of 64 bits", y, y.call(0, 0, 0), LOWEST);
        due("constant", y.constant(LONG, true, LONGEST), 1);
        due("work", y.work(0, 0, FORMULA, NONE, 1), 0);
        dueFailure("beyond with it", y, y.call(0, 0, 0), 2, NONE);
    }

    private static void notTakenIsNotTurned() {
        Check.sentence("for each ARGUMENT of that MEMBER f's is turned (no other)");
        AdapterBench x = bench(sorts(LONG, LONG, LONG), sorts(LONG, LONG));
        hold(x, 3, LONGEST);
        dueResult("the second is left", x, x.call(0, 0, 0), 3);
        AdapterBench y = bench(sorts(LONG, TENTHS), sorts(LONG, SIGN));
        due("constant", y.constant(SIGN, true, 1), 0);
        hold(y, LONGEST);
        dueResult("a CONSTANT is cheaper, so nothing FAILS", y, y.call(0, 0, 0), 1);
    }

    private static void workBehindArguments() {
        Check.sentence("at last the CLASS's MEMBER does its WORK");
        for (int kind = FORMULA; kind <= WRITE; kind++) {
            AdapterBench x = bench(sorts(LONG, LONG), sorts(LONG, INT));
            due("work", x.work(0, 0, kind, 0, 0), 0);
            due("put", x.put(0, 0, 40), 0);
            hold(x, LAST[INT] + 1);
            dueFailure("an ARGUMENT FAILS, also of READ", x, x.call(0, 0, 0), 1, 3);
            due("no WORK was done", x.field(0, 0), 40);
            hold(x, 2);
            dueResult("then it is", x, x.call(0, 0, 0), kind == FORMULA ? 42 : 40);
            due("done", x.field(0, 0), kind == WRITE ? 2 : 40);
        }
    }

    private static void resultsTurnedBack() {
        Check.sentence("then RESULTS are turned back");
        AdapterBench x = bench(sorts(SIGN), sorts(TENTHS));
        due("work", x.work(0, 0, READ, 0, 0), 0);
        long[][] broken = {{LONGEST, 3}, {10 * (LAST[INT] + 1), 3}, {10 * (LAST[INT] + 1) - 1, 4}, {327680, 4},
            {327679, 11}, {1280, 11}, {-10, 11}};
        for (long[] pair : broken) {
            due("put", x.put(0, 0, pair[0]), 0);
            dueFailure("of " + pair[0], x, x.call(0, 0, 0), 3, (int) pair[1]);
        }
        due("put", x.put(0, 0, 1279), 0);
        dueResult("a SIGN", x, x.call(0, 0, 0), 127);
        AdapterBench y = bench(sorts(TENTHS), sorts(LONG));
        due("work", y.work(0, 0, READ, 0, 0), 0);
        due("put", y.put(0, 0, LONGEST / 10), 0);
        dueResult("ten times", y, y.call(0, 0, 0), LONGEST / 10 * 10);
        due("put", y.put(0, 0, LONGEST / 10 + 1), 0);
        dueFailure("too far", y, y.call(0, 0, 0), 3, 8);
    }

    private static void writeStays() {
        Check.sentence("(what a WRITE did stays, if a RESULT FAILS on its way back)");
        AdapterBench x = bench(sorts(SHORT, LONG), sorts(LONG, LONG));
        due("work", x.work(0, 0, WRITE, 2, 0), 0);
        due("put", x.put(0, 2, 32768), 0);
        hold(x, -32769);
        dueFailure("above", x, x.call(0, 0, 0), 3, 4);
        due("stays", x.field(0, 2), -32769);
        hold(x, 32767);
        dueFailure("below", x, x.call(0, 0, 0), 3, 4);
        due("stays", x.field(0, 2), 32767);
        dueResult("not beyond", x, x.call(0, 0, 0), 32767);
        due("count of failed", x.count(7), 2);
        due("count of done", x.count(6), 1);
    }

    /** FACE 2 by FACE 1 by FACE 0 by CLASS 0: an INT becomes a SHORT, a BYTE, a TRUTH; back from LONG to SIGN. */
    private static AdapterBench fourShapes() {
        AdapterBench x = new AdapterBench();
        due("ask", x.ask(2, 2, sorts(SIGN, INT)), 0);
        due("ask", x.ask(1, 1, sorts(SHORT, SHORT)), 0);
        due("ask", x.ask(0, 0, sorts(INT, BYTE)), 0);
        due("offer", x.offer(0, 0, sorts(LONG, TRUTH)), 0);
        due("alias", x.alias(2, 1, true), true);
        due("alias", x.alias(1, 0, true), true);
        due("object", x.object(0), 0);
        return x;
    }

    private static void shapeByShape() {
        Check.sentence("then that one is CALLED likewise ..; then RESULTS are turned back, SHAPE by SHAPE");
        AdapterBench x = fourShapes();
        // 0 to 1: SHORT to BYTE 5, INT to SHORT 5, 2. 1 to 2: INT to SHORT 5, SHORT to SIGN 5, 2.
        dueWay("way", x, 0, 2, 24, 0, 1, 2);
        due("work", x.work(0, 0, FORMULA, 0, 0), 0);
        long[][] in = {{LAST[INT] + 1, 0, NONE}, {LAST[INT], 1, 4}, {32768, 1, 4}, {32767, 1, 5}, {128, 1, 5}, {-129, 1, 5}};
        for (long[] one : in) {
            hold(x, one[0]);
            dueFailure("in: " + one[0], x, x.through(0, 0, 2, 0), (int) one[1], (int) one[2]);
        }
        hold(x, -128);
        dueResult("BYTE to TRUTH is 1", x, x.through(0, 0, 2, 0), 1);
        long[][] back = {{LONGEST, 2, NONE}, {LONGEST - 1, 3, 3}, {LAST[INT], 3, 3}, {LAST[INT] - 1, 3, 4}, {32767, 3, 4},
            {32766, 3, 11}, {127, 3, 11}, {-2, 3, 11}};
        for (long[] one : back) {
            due("put", x.put(0, 0, one[0]), 0);
            dueFailure("back: " + one[0], x, x.through(0, 0, 2, 0), (int) one[1], (int) one[2]);
        }
        due("put", x.put(0, 0, 126), 0);
        dueResult("a SIGN", x, x.through(0, 0, 2, 0), 127);
    }

    private static void toldAtOnce() {
        Check.sentence("All that is told changes what comes behind at once");
        AdapterBench x = bench(sorts(LONG, LONG), sorts(LONG, LONG));
        hold(x, 10);
        dueResult("hand", x, x.call(0, 0, 0), 10);
        due("times", x.times(0, 0, 0, 3), 1);
        dueResult("times", x, x.call(0, 0, 0), 30);
        due("work", x.work(0, 0, FORMULA, 1, 4), 0);
        dueResult("work", x, x.call(0, 0, 0), 34);
        due("put", x.put(0, 1, 200), 0);
        dueResult("put", x, x.call(0, 0, 0), 234);
        due("strip", x.strip(true, 0), 1);
        due("strip", x.call(0, 0, 0), EMPTY);
        due("ask", x.ask(0, 7, sorts(TENTHS, TENTHS)), 0);
        dueResult("ask: 10 tenths are 1, 207 is 2070 tenths", x, x.call(0, 0, 0), 2070);
        due("rule", x.rule(TENTHS, LONG, 1, numbers(2, 0)), 12);
        dueResult("rule: 20 * 3 + 204", x, x.call(0, 0, 0), 2640);
        due("drop", x.drop(12), 1);
        dueResult("drop", x, x.call(0, 0, 0), 2070);
        due("offer", x.offer(0, 7, sorts(TENTHS, TENTHS)), 1);
        dueResult("offer: a cheaper one", x, x.call(0, 0, 0), 10);
        due("ask", x.ask(1, 8, sorts(TENTHS)), 0);
        due("gap", x.call(0, 1, 0), GAP);
        due("alias", x.alias(8, 7, true), true);
        due("gap", x.call(0, 1, 0), GAP);
        due("constant", x.constant(TENTHS, true, 99), 0);
        dueResult("constant", x, x.call(0, 1, 0), 99);
        due("alias", x.alias(8, 7, false), true);
        due("alias off", x.call(0, 1, 0), GAP);
    }

    private static void fiveHundredAndTwelve() {
        Check.sentence("An object is used for at most 512 calls after it has been made");
        AdapterBench x = bench(sorts(LONG, LONG), sorts(LONG, LONG));
        due("work", x.work(0, 0, WRITE, 0, 0), 0);
        for (int i = 0; i < 252; i++) {
            due("hand", x.hand(0, i), 0);
            due("call", x.call(0, 0, 0), 0);
        }
        due("value", x.value(), 250);
        due("field", x.field(0, 0), 251);
        due("failed", x.failed(0), NONE);
        due("the 512th", x.count(6), 252);
        AdapterBench y = new AdapterBench();
        for (int i = 0; i < 511; i++) {
            due("turn fails", y.turn(SHORT, SIGN, -1), FAILS);
        }
        due("the 512th", y.failed(1), 11);
    }

    // ---- promise 17

    private static void objectOutside() {
        Check.sentence("object: OUTSIDE");
        AdapterBench x = new AdapterBench();
        for (int shape : NO_SHAPE) {
            due("class " + shape, x.object(shape), OUTSIDE);
        }
        due("none came", x.count(1), 0);
        due("class 0", x.object(0), 0);
        due("class 9", x.object(9), 1);
        due("count", x.count(1), 2);
    }

    private static void objectIsFull() {
        Check.sentence("object: FULL, and what still works then");
        AdapterBench x = new AdapterBench();
        for (int i = 0; i < 20; i++) {
            due("object", x.object(9), i);
        }
        for (int shape = 0; shape < 10; shape++) {
            due("full", x.object(shape), FULL);
        }
        for (int shape : NO_SHAPE) {
            due("outside ahead of full", x.object(shape), OUTSIDE);
        }
        due("count", x.count(1), 20);
        due("put", x.put(19, 2, 5), 0);
        due("field", x.field(19, 2), 5);
        due("put beyond", x.put(20, 2, 5), EMPTY);
        due("ask", x.ask(0, 1, sorts(LONG)), 0);
        due("offer", x.offer(9, 1, sorts(LONG)), 0);
        due("work", x.work(9, 0, READ, 2, 0), 0);
        dueResult("call", x, x.call(19, 0, 0), 5);
        dueResult("through", x, x.through(18, 0, 0, 0), 0);
        due("strip gives no room", x.strip(false, 9), 1);
        due("full still", x.object(9), FULL);
    }

    // ---- promise 18

    private static void putEmpty() {
        Check.sentence("put: EMPTY: no such object (ahead of OUTSIDE)");
        AdapterBench x = new AdapterBench();
        due("none yet", x.put(0, 0, 5), EMPTY);
        due("object", x.object(0), 0);
        due("object", x.object(0), 1);
        int[] none = {-1, 2, 19, 20, LEAST, MOST};
        for (int object : none) {
            due("object " + object, x.put(object, 0, 5), EMPTY);
            due("ahead of field -1", x.put(object, -1, 5), EMPTY);
            due("ahead of field 3", x.put(object, 3, 5), EMPTY);
        }
        due("object", x.object(0), 2);
        due("nothing came to it", x.field(2, 0), 0);
        due("nothing came to others", x.field(0, 0) | x.field(1, 0), 0);
    }

    private static void putOutside() {
        Check.sentence("put: OUTSIDE: field");
        AdapterBench x = new AdapterBench();
        due("object", x.object(0), 0);
        due("object", x.object(0), 1);
        int[] wrong = {-1, 3, 4, 5, LEAST, MOST};
        for (int field : wrong) {
            due("field " + field, x.put(0, field, 5), OUTSIDE);
            due("field " + field, x.put(1, field, 5), OUTSIDE);
        }
        for (int i = 0; i < 6; i++) {
            due("nothing came", x.field(i / 3, i % 3), 0);
        }
    }

    private static void putEnds() {
        Check.sentence("A FIELD of an OBJECT becomes v: 0");
        AdapterBench x = new AdapterBench();
        due("object", x.object(0), 0);
        long[] values = {LOWEST, LONGEST, 0, -1, 1L << 32};
        for (int field = 0; field < 3; field++) {
            for (long v : values) {
                due("put", x.put(0, field, v), 0);
                due("it is that", x.field(0, field), v);
            }
        }
    }

    // ---- promise 19

    private static void fieldWithout() {
        Check.sentence("field: 0 without such ones");
        AdapterBench x = new AdapterBench();
        due("none yet", x.field(0, 0), 0);
        due("object", x.object(0), 0);
        due("object", x.object(0), 1);
        due("object", x.object(0), 2);
        for (int i = 0; i < 9; i++) {
            due("put", x.put(i / 3, i % 3, 5), 0);
        }
        int[] noField = {-1, 3, 4, LEAST, MOST};
        for (int field : noField) {
            due("field " + field, x.field(1, field), 0);
        }
        int[] noObject = {-1, 3, 19, 20, LEAST, MOST};
        for (int object : noObject) {
            due("object " + object, x.field(object, 0), 0);
            due("object " + object, x.field(object, -1), 0);
            due("object " + object, x.field(object, 3), 0);
        }
        for (int i = 0; i < 9; i++) {
            due("with such ones", x.field(i / 3, i % 3), 5);
        }
    }

    // ---- promise 20

    private static void handOutside() {
        Check.sentence("hand: OUTSIDE: i is not 0 .. 3");
        int four = sorts(LONG, LONG, LONG, LONG, LONG);
        AdapterBench x = bench(four, four);
        int[] wrong = {-1, 4, 5, LEAST, MOST};
        for (int i : wrong) {
            due("hand " + i, x.hand(i, 77), OUTSIDE);
        }
        dueResult("nothing came", x, x.call(0, 0, 0), 0);
        for (int i = 0; i < 4; i++) {
            due("hand " + i, x.hand(i, 1), 0);
            dueResult("came", x, x.call(0, 0, 0), i + 1);
        }
    }

    private static void handEnds() {
        Check.sentence("Value i IN HAND becomes v: 0 (of any sort)");
        AdapterBench x = bench(sorts(LONG, LONG), sorts(LONG, LONG));
        long[] values = {LOWEST, LONGEST, -1, 0, 1L << 32};
        for (long v : values) {
            due("hand", x.hand(0, v), 0);
            dueResult("it is that", x, x.call(0, 0, 0), v);
            dueResult("it stays", x, x.call(0, 0, 0), v);
        }
    }

    // ---- promise 21

    private static void callEmptyObject() {
        Check.sentence("call: EMPTY: no such object (ahead of all)");
        AdapterBench x = bench(sorts(LONG), sorts(LONG));
        int[] none = {-1, 1, 19, 20, LEAST, MOST};
        for (int object : none) {
            due("object " + object, x.call(object, 0, 0), EMPTY);
            due("ahead of face", x.call(object, 10, 0), EMPTY);
            due("ahead of face and member", x.call(object, -1, -1), EMPTY);
        }
        due("object 0", x.call(0, 0, 0), 0);
    }

    private static void callOutside() {
        Check.sentence("call: OUTSIDE: face (ahead of EMPTY: no such MEMBER)");
        AdapterBench x = bench(sorts(LONG), sorts(LONG));
        for (int face : NO_SHAPE) {
            due("face " + face, x.call(0, face, 0), OUTSIDE);
            due("ahead of member", x.call(0, face, 6), OUTSIDE);
        }
        due("face 9", x.call(0, 9, 0), EMPTY);
        due("ask", x.ask(9, 7, sorts(LONG)), 0);
        due("face 9", x.call(0, 9, 0), 0);
    }

    private static void callEmptyMember() {
        Check.sentence("call: EMPTY: no such MEMBER (ahead of GAP and FAILS)");
        AdapterBench x = bench(sorts(LONG, BYTE), sorts(LONG, BYTE));
        due("ask", x.ask(0, 8, sorts(LONG)), 1);
        hold(x, 128);
        int[] none = {-1, 2, 5, 6, LEAST, MOST};
        for (int member : none) {
            due("member " + member, x.call(0, 0, member), EMPTY);
        }
        due("strip the class", x.strip(false, 0), 1);
        due("ahead of gap", x.call(0, 0, 2), EMPTY);
        due("gap", x.call(0, 0, 1), GAP);
        due("no failure", x.failed(0), NONE);
    }

    private static void callGap() {
        Check.sentence("call: GAP (ahead of FAILS)");
        AdapterBench x = bench(sorts(LONG, BYTE), sorts(LONG, BYTE));
        due("ask", x.ask(0, 8, sorts(LONG, BYTE)), 1);
        hold(x, 128);
        due("gap", x.call(0, 0, 1), GAP);
        due("no failure", x.failed(0), NONE);
        due("not counted", x.count(6) + x.count(7), 0);
        dueFailure("fails", x, x.call(0, 0, 0), 0, NONE);
        due("gap again", x.call(0, 0, 1), GAP);
        due("the failure stays", x.failed(0), 0);
        due("counted", x.count(7), 1);
    }

    private static void callFails() {
        Check.sentence("call: FAILS changes neither value() nor what is IN HAND");
        AdapterBench x = bench(sorts(LONG, BYTE), sorts(LONG, BYTE));
        hold(x, 5);
        dueResult("done", x, x.call(0, 0, 0), 5);
        due("number", x.work(0, 0, FORMULA, 0, 0), 0);
        due("put", x.put(0, 0, LONGEST), 0);
        dueFailure("fails", x, x.call(0, 0, 0), 2, NONE);
        due("value stays", x.value(), 5);
        due("the FIELD stays", x.field(0, 0), LONGEST);
        due("put", x.put(0, 0, 0), 0);
        dueResult("the hand stays", x, x.call(0, 0, 0), 5);
    }

    // ---- promise 22

    private static void throughEmptyObject() {
        Check.sentence("through: EMPTY: no such object (ahead of all)");
        AdapterBench x = chain(2);
        due("none yet", x.through(0, 0, 0, 0), EMPTY);
        due("object", x.object(0), 0);
        int[] none = {-1, 1, 19, 20, LEAST, MOST};
        for (int object : none) {
            due("object " + object, x.through(object, 0, 0, 0), EMPTY);
            due("ahead of from", x.through(object, 10, 0, 0), EMPTY);
            due("ahead of to", x.through(object, 0, -1, 9), EMPTY);
            due("ahead of no way", x.through(object, 2, 0, 0), EMPTY);
        }
    }

    private static void throughOutside() {
        Check.sentence("through: OUTSIDE: faces (ahead of NONE)");
        AdapterBench x = chain(2);
        due("object", x.object(0), 0);
        for (int face : NO_SHAPE) {
            due("from " + face, x.through(0, face, 0, 0), OUTSIDE);
            due("to " + face, x.through(0, 0, face, 0), OUTSIDE);
            due("both " + face, x.through(0, face, face, 0), OUTSIDE);
            due("ahead of member", x.through(0, face, 0, 9), OUTSIDE);
        }
        due("faces 9", x.through(0, 9, 9, 0), EMPTY);
    }

    private static void throughNone() {
        Check.sentence("through: NONE: there is no WAY (ahead of EMPTY: no such MEMBER)");
        AdapterBench x = chain(2);
        due("object", x.object(0), 0);
        due("no way", x.through(0, 2, 0, 0), NONE);
        due("ahead of no member", x.through(0, 2, 0, 1), NONE);
        due("ahead of no member", x.through(0, 2, 0, -1), NONE);
        due("a FACE without MEMBERS has no way to others", x.through(0, 9, 0, 0), NONE);
        due("but to such ones", x.through(0, 9, 8, 0), EMPTY);
        due("others have ways to it", x.through(0, 0, 9, 0), EMPTY);
        due("alias", x.alias(0, 2, true), true);
        due("now there is one", x.through(0, 2, 0, 1), EMPTY);
    }

    private static void throughEmptyMember() {
        Check.sentence("through: the MEMBER is one of to's; EMPTY: no such MEMBER (ahead of GAP)");
        AdapterBench x = chain(2);
        due("object", x.object(0), 0);
        due("ask", x.ask(0, 50, sorts(LONG)), 1);
        int[] none = {-1, 1, 6, LEAST, MOST};
        for (int member : none) {
            due("member " + member, x.through(0, 0, 2, member), EMPTY);
        }
        due("member 0", x.through(0, 0, 2, 0), GAP);
        due("offer", x.offer(0, 0, sorts(LONG, LONG)), 0);
        due("from's are not asked for", x.through(0, 0, 2, 1), EMPTY);
        due("member 0", x.through(0, 0, 2, 0), 0);
        due("of its own", x.through(0, 0, 0, 1), GAP);
        due("ask", x.ask(2, 2, sorts(LONG, LONG)), 1);
        due("ask", x.ask(2, 2, sorts(TENTHS, LONG)), 2);
        hold(x, 6);
        dueResult("a MEMBER of to's that from has not", x, x.through(0, 0, 2, 2), 60);
        due("the next is none", x.through(0, 0, 2, 3), EMPTY);
    }

    private static void throughGap() {
        Check.sentence("through: GAP: of a MEMBER that is CALLED by the CLASS (ahead of FAILS)");
        AdapterBench x = fourShapes();
        due("strip", x.strip(false, 0), 1);
        hold(x, LONGEST);
        due("ahead of what is not of its sort", x.through(0, 0, 2, 0), GAP);
        hold(x, 32768);
        due("ahead of a RULE", x.through(0, 0, 2, 0), GAP);
        due("no failure", x.failed(0), NONE);
        due("not counted", x.count(6) + x.count(7), 0);
        // The CLASS serves FACE 2's MEMBER, but the one that is CALLED by it is FACE 0's.
        due("offer", x.offer(0, 2, sorts(SIGN, INT)), 0);
        due("a gap still", x.through(0, 0, 2, 0), GAP);
        hold(x, 1);
        due("a call of it", x.call(0, 2, 0), 0);
        // Another MEMBER of FACE 0 may be a GAP: only the one that is CALLED counts.
        due("offer", x.offer(0, 0, sorts(LONG, TRUTH)), 1);
        due("ask", x.ask(0, 77, sorts(LONG)), 1);
        due("the class does not fit FACE 0", x.fits(0, 0), GAP);
        due("but through is done", x.through(0, 0, 2, 0), 0);
    }

    private static void throughOrder() {
        Check.sentence("is CALLED through the FACES of THE WAY from its end on, back to the first one, and the CLASS");
        // The places of two ARGUMENTS are told apart by a TENTHS, which makes a tenth of it at each turn to LONG.
        AdapterBench x = new AdapterBench();
        due("ask", x.ask(2, 2, sorts(LONG, TENTHS, TRUTH)), 0);
        due("ask", x.ask(1, 1, sorts(LONG, TRUTH, LONG)), 0);
        due("ask", x.ask(0, 0, sorts(LONG, TENTHS, TRUTH)), 0);
        due("offer", x.offer(0, 0, sorts(LONG, LONG, TRUTH)), 0);
        due("alias", x.alias(2, 1, true), true);
        due("alias", x.alias(1, 0, true), true);
        due("times", x.times(0, 0, 0, 1000), 1);
        due("object", x.object(0), 0);
        // 2 by 1: TENTHS to LONG 6, and 2 for the places; 1 by 0: LONG to TENTHS 3, and 2; 2 and 2 for the NAMES.
        dueWay("way", x, 0, 2, 17, 0, 1, 2);
        hold(x, 57, 1);
        // 57 tenths are 5, are 50 tenths, are 5.
        dueResult("all along", x, x.through(0, 0, 2, 0), 5001);
        due("alias", x.alias(2, 0, true), true);
        dueWay("a shorter one", x, 0, 2, 2, 0, 2);
        dueResult("by that", x, x.through(0, 0, 2, 0), 5001);
        hold(x, LONGEST, 0);
        dueFailure("FAILS in the CLASS's WORK", x, x.through(0, 0, 2, 0), 2, NONE);
    }

    private static void throughItself() {
        Check.sentence("through THE WAY from one FACE to another (or to itself: that FACE alone)");
        AdapterBench x = bench(sorts(TENTHS, TENTHS), sorts(LONG, LONG));
        hold(x, 39);
        dueResult("call", x, x.call(0, 0, 0), 30);
        dueResult("through is the same", x, x.through(0, 0, 0, 0), 30);
        due("both are CALLS", x.count(6), 2);
    }

    private static void throughAllFaces() {
        Check.sentence("through the FACES of THE WAY (all ten)");
        AdapterBench x = chain(9);
        due("offer", x.offer(9, 0, sorts(LONG, LONG)), 0);
        due("work", x.work(9, 0, FORMULA, 0, 0), 0);
        due("object", x.object(9), 0);
        due("put", x.put(0, 0, 1), 0);
        hold(x, LONGEST - 1);
        for (int to = 9; to >= 0; to--) {
            dueResult("to " + to, x, x.through(0, 0, to, 0), LONGEST);
        }
        due("from 2 the CLASS does not serve", x.through(0, 2, 9, 0), GAP);
        due("count", x.count(6), 10);
    }

    // ---- promise 23

    private static void valueAtFirst() {
        Check.sentence("value: 0 at first");
        AdapterBench x = bench(sorts(LONG, BYTE), sorts(LONG, BYTE));
        due("at first", x.value(), 0);
        hold(x, 128);
        due("fails", x.call(0, 0, 0), FAILS);
        due("fails", x.turn(BYTE, BYTE, 128), FAILS);
        due("still", x.value(), 0);
    }

    private static void valueOfLatest() {
        Check.sentence("What the latest turn(), call(), through() that answered 0 made");
        AdapterBench x = chain(1);
        due("offer", x.offer(0, 0, sorts(LONG, LONG)), 0);
        due("object", x.object(0), 0);
        hold(x, 11);
        dueResult("call", x, x.call(0, 0, 0), 11);
        dueTurn(x, LONG, TENTHS, 12, 120);
        hold(x, 13);
        dueResult("through", x, x.through(0, 0, 1, 0), 13);
        due("outside", x.turn(7, 0, 5), OUTSIDE);
        due("fails", x.turn(BYTE, BYTE, 1000), FAILS);
        due("fails by a RULE behind others", x.turn(TENTHS, SIGN, 1280), FAILS);
        due("none", x.through(0, 1, 0, 0), NONE);
        due("empty", x.through(0, 0, 1, 1), EMPTY);
        due("gap", x.through(0, 1, 1, 0), 0);
        due("through", x.value(), 13);
        due("empty", x.call(1, 0, 0), EMPTY);
        due("outside", x.call(0, 10, 0), OUTSIDE);
        due("stays", x.value(), 13);
        dueTurn(x, LONG, LONG, LOWEST, LOWEST);
        dueTurn(x, LONG, LONG, LONGEST, LONGEST);
    }

    // ---- promise 24

    private static void failedWhere() {
        Check.sentence("what 0 where: 0 a value that is not of its sort, 1 a RULE on the way in (or of turn()), 2 the WORK, 3 a RULE on the way back; 1 the RULE (NONE: it was none)");
        AdapterBench x = bench(sorts(INT, LONG), sorts(LONG, INT));
        dueFailure("turn, a value", x, x.turn(BYTE, LONG, 128), 0, NONE);
        dueFailure("turn, a RULE", x, x.turn(LONG, INT, LONGEST), 1, 3);
        hold(x, LONGEST);
        dueFailure("call, on the way in", x, x.call(0, 0, 0), 1, 3);
        hold(x, 1);
        due("work", x.work(0, 0, FORMULA, 0, 0), 0);
        due("put", x.put(0, 0, LONGEST), 0);
        dueFailure("call, the WORK", x, x.call(0, 0, 0), 2, NONE);
        due("put", x.put(0, 0, LONGEST - 1), 0);
        dueFailure("call, on the way back", x, x.call(0, 0, 0), 3, 3);
        due("rule", x.rule(LONG, INT, 1, numbers(-1, 0)), 12);
        dueFailure("by a told RULE", x, x.call(0, 0, 0), 3, 12);
        due("drop", x.drop(12), 1);
        due("the number stays though it is no more", x.failed(1), 12);
        AdapterBench y = bench(sorts(LONG, SIGN), sorts(LONG, SIGN));
        hold(y, -1);
        dueFailure("call, a value", y, y.call(0, 0, 0), 0, NONE);
        // RULE 0 is a RULE, not none.
        AdapterBench z = new AdapterBench();
        due("rule", z.rule(SHORT, TRUTH, 1, numbers(1, 0)), 12);
        dueFailure("a told RULE behind RULE 0", z, z.turn(BYTE, TRUTH, 2), 1, 12);
    }

    private static void failedLatest() {
        Check.sentence("Of the latest turn(), call(), through() that answered FAILS");
        AdapterBench x = bench(sorts(LONG, BYTE), sorts(LONG, BYTE));
        hold(x, 128);
        dueFailure("call", x, x.call(0, 0, 0), 0, NONE);
        dueFailure("turn", x, x.turn(INT, SHORT, 32768), 1, 4);
        dueFailure("through", x, x.through(0, 0, 0, 0), 0, NONE);
        dueFailure("turn", x, x.turn(SHORT, SIGN, -1), 1, 11);
        hold(x, 127);
        due("a call that is done", x.call(0, 0, 0), 0);
        due("a turn that is done", x.turn(INT, SHORT, 32767), 0);
        due("a through that is done", x.through(0, 0, 0, 0), 0);
        due("refused", x.call(0, 0, 1), EMPTY);
        due("refused", x.turn(7, 7, 0), OUTSIDE);
        due("refused", x.through(0, 10, 0, 0), OUTSIDE);
        due("where stays", x.failed(0), 1);
        due("rule stays", x.failed(1), 11);
    }

    private static void failedNone() {
        Check.sentence("failed: NONE: there was none");
        AdapterBench x = bench(sorts(LONG), sorts(LONG));
        due("where", x.failed(0), NONE);
        due("rule", x.failed(1), NONE);
        due("call", x.call(0, 0, 0), 0);
        due("turn", x.turn(0, 0, 0), 0);
        due("refused", x.call(0, 1, 0), EMPTY);
        due("where still", x.failed(0), NONE);
        due("rule still", x.failed(1), NONE);
        // The call tells NONE ahead of OUTSIDE.
        due("what 2", x.failed(2), NONE);
        due("what -1", x.failed(-1), NONE);
    }

    private static void failedOutside() {
        Check.sentence("failed: OUTSIDE: what");
        AdapterBench x = new AdapterBench();
        due("turn", x.turn(SHORT, SIGN, -1), FAILS);
        int[] wrong = {-1, 2, 3, LEAST, MOST};
        for (int what : wrong) {
            due("what " + what, x.failed(what), OUTSIDE);
        }
        due("what 0", x.failed(0), 1);
        due("what 1", x.failed(1), 11);
    }

    // ---- promise 25

    private static void countEach() {
        Check.sentence("What 0: RULES that there are, 1 OBJECTS, 2 aliases, 3 CONSTANTS, 4 MEMBERS of all FACES, 5 of all CLASSES");
        AdapterBench x = new AdapterBench();
        dueCounts(x, 12, 0, 0, 0, 0, 0);
        due("rule", x.rule(0, 1, 1, 0), 12);
        dueCounts(x, 13, 0, 0, 0, 0, 0);
        due("object", x.object(0), 0);
        dueCounts(x, 13, 1, 0, 0, 0, 0);
        due("alias", x.alias(0, 1, true), true);
        dueCounts(x, 13, 1, 1, 0, 0, 0);
        due("constant", x.constant(6, true, 0), 0);
        due("constant again", x.constant(6, true, 1), 1);
        dueCounts(x, 13, 1, 1, 1, 0, 0);
        for (int i = 0; i < 60; i++) {
            due("ask", x.ask(i % 10, i, sorts(LONG)), i / 10);
        }
        dueCounts(x, 13, 1, 1, 1, 60, 0);
        for (int i = 0; i < 60; i++) {
            due("offer", x.offer(i % 10, i, sorts(LONG)), i / 10);
        }
        dueCounts(x, 13, 1, 1, 1, 60, 60);
        due("strip", x.strip(true, 9), 6);
        dueCounts(x, 13, 1, 1, 1, 54, 60);
        due("strip", x.strip(false, 0), 6);
        dueCounts(x, 13, 1, 1, 1, 54, 54);
        due("drop", x.drop(12), 1);
        due("alias", x.alias(0, 1, false), true);
        due("constant", x.constant(6, false, 0), 1);
        dueCounts(x, 12, 1, 0, 0, 54, 54);
    }

    private static void dueCounts(AdapterBench x, int... counts) {
        for (int what = 0; what < 8; what++) {
            due("count " + what, x.count(what), what < counts.length ? counts[what] : 0);
        }
    }

    private static void countOutside() {
        Check.sentence("count: OUTSIDE");
        AdapterBench x = new AdapterBench();
        int[] wrong = {-1, 8, 9, LEAST, MOST};
        for (int what : wrong) {
            due("what " + what, x.count(what), OUTSIDE);
        }
        due("what 0", x.count(0), 12);
        due("what 7", x.count(7), 0);
    }

    private static void countCalls() {
        Check.sentence("6 CALLS that answered 0, 7 that answered FAILS");
        AdapterBench x = bench(sorts(LONG, BYTE), sorts(LONG, BYTE));
        due("call", x.call(0, 0, 0), 0);
        due("through", x.through(0, 0, 0, 0), 0);
        due("call", x.call(0, 0, 0), 0);
        hold(x, 128);
        due("call", x.call(0, 0, 0), FAILS);
        due("through", x.through(0, 0, 0, 0), FAILS);
        due("refused", x.call(1, 0, 0), EMPTY);
        due("refused", x.call(0, 10, 0), OUTSIDE);
        due("refused", x.call(0, 0, 1), EMPTY);
        due("refused", x.through(0, 1, 0, 0), NONE);
        due("strip", x.strip(false, 0), 1);
        due("gap", x.call(0, 0, 0), GAP);
        due("gap", x.through(0, 0, 0, 0), GAP);
        due("a turn is no CALL", x.turn(0, 0, 0), 0);
        due("a turn is no CALL", x.turn(0, 0, 128), FAILS);
        due("answered 0", x.count(6), 3);
        due("answered FAILS", x.count(7), 2);
    }
}
