/** The sentences of part 2 and of the promises 6 to 12 that name an edge, each with a test of its own. */
public final class EdgesOfShapesTest extends Dues {
    private static final int[] NO_SHAPE = {-1, 10, 11, LEAST, MOST};
    private static final int[] NO_NAME = {-1, 100, 101, LEAST, MOST};
    private static final int[] NO_SORTS = {-1, LEAST, 7, 0_17, 0_77777, MOST, 0_100, 0_1000, 0_10000, 0_100000, 0_1010,
        0_10010, 0_10100, 0_11010, 0_10110, 0_111110, 0_777770, 0_100010, 0_101110, 0_1111110, 0_10000000000};

    private EdgesOfShapesTest() {
    }

    public static void main(String[] args) {
        tenOfEach();
        sixMembers();
        namesMayBeAlike();
        argumentsUpToFour();
        threeFields();
        formulaSums();
        formulaProducts();
        formulaField();
        read();
        write();
        writeSums();
        resultSorts();
        failedWorkChangesNoField();
        askOutside();
        askSorts();
        askIsFull();
        offerOutside();
        offerIsFull();
        offerFirstWork();
        workOutside();
        workField();
        workNumber();
        workEmpty();
        timesOutside();
        timesEmpty();
        timesEnds();
        timesOfOtherWork();
        stripOutside();
        stripHowMany();
        stripLeavesObjects();
        aliasNames();
        aliasIsNew();
        aliasThirty();
        constantOutside();
        constantEnds();
        constantNotTold();
        Check.end("EdgesOfShapesTest");
    }

    // ---- part 2

    private static void tenOfEach() {
        Check.sentence("FACES 0 .. 9 and CLASSES 0 .. 9 are SHAPES");
        AdapterBench x = new AdapterBench();
        for (int i = 0; i < 10; i++) {
            due("ask " + i, x.ask(i, i, sorts(LONG)), 0);
            due("offer " + i, x.offer(i, 10 + i, sorts(LONG)), 0);
        }
        for (int i = 0; i < 100; i++) {
            due("face by face " + i, x.fits(i / 10, 10 + i % 10), i / 10 == i % 10 ? 0 : GAP);
            due("face by class " + i, x.gap(i / 10, i % 10), 0);
        }
        due("count of faces' members", x.count(4), 10);
        due("count of classes' members", x.count(5), 10);
    }

    private static void sixMembers() {
        Check.sentence("each has at most 6 MEMBERS, numbered from 0 as they come");
        AdapterBench x = new AdapterBench();
        for (int i = 0; i < 6; i++) {
            due("ask " + i, x.ask(9, i, sorts(LONG)), i);
            due("offer " + i, x.offer(9, 5 - i, sorts(LONG)), i);
            due("number", x.work(9, i, FORMULA, NONE, i), 0);
        }
        due("a seventh asked", x.ask(9, 6, sorts(LONG)), FULL);
        due("a seventh offered", x.offer(9, 6, sorts(LONG)), FULL);
        due("object", x.object(9), 0);
        for (int i = 0; i < 6; i++) {
            due("each is met by its NAME", x.fit(9, i, 9, 1), 5 - i);
            dueResult("each does its own work", x, x.call(0, 9, i), 5 - i);
        }
        due("no member 6 of the face", x.fit(9, 6, 9, 0), EMPTY);
        due("no member 6 of the class", x.work(9, 6, FORMULA, NONE, 0), EMPTY);
    }

    private static void namesMayBeAlike() {
        Check.sentence("(NAMES in one SHAPE may be alike.)");
        AdapterBench x = new AdapterBench();
        for (int i = 0; i < 6; i++) {
            due("ask", x.ask(0, 99, sorts(i)), i);
            due("offer", x.offer(0, 99, sorts(i)), i);
        }
        for (int i = 0; i < 6; i++) {
            due("each by its own", x.fit(0, i, 0, 1), i);
            due("at 0", x.fit(0, i, 0, 0), 0);
        }
    }

    private static void argumentsUpToFour() {
        Check.sentence("a MEMBER has a NAME, 0 .. 99, 0 to 4 ARGUMENTS, each of a sort, and a RESULT of a sort");
        int[] arguments = {LONG, TENTHS, LONG, TENTHS};
        for (int arity = 0; arity <= 4; arity++) {
            int[] some = java.util.Arrays.copyOf(arguments, arity);
            AdapterBench x = bench(sorts(LONG, some), sorts(LONG, some));
            hold(x, 1, 20, 300, 4000);
            long[] together = {0, 1, 21, 321, 4321};
            dueResult("of " + arity, x, x.call(0, 0, 0), together[arity]);
            due("its last place", x.fit(0, 0, 0, 1 + arity), arity == 0 ? 0 : arity - 1);
            due("cost", x.fits(0, 0), 0);
            if (arity < 4) {
                due("no place more", x.fit(0, 0, 0, 2 + arity), NONE);
            }
        }
    }

    private static void threeFields() {
        Check.sentence("they have FIELDS 0 .. 2 of the sort LONG");
        AdapterBench x = bench(sorts(LONG), sorts(LONG));
        for (int field = 0; field < 3; field++) {
            due("put", x.put(0, field, field == 1 ? LOWEST : LONGEST - field), 0);
        }
        long[] held = {LONGEST, LOWEST, LONGEST - 2};
        for (int field = 0; field < 3; field++) {
            due("work", x.work(0, 0, READ, field, 0), 0);
            dueResult("field " + field, x, x.call(0, 0, 0), held[field]);
        }
        due("no field 3", x.work(0, 0, READ, 3, 0), OUTSIDE);
        dueResult("the last one still", x, x.call(0, 0, 0), LONGEST - 2);
    }

    /** A CLASS with a FORMULA of two LONGS, its number and what its ARGUMENTS are multiplied by. */
    private static AdapterBench formula(int number, int first, int second) {
        AdapterBench x = bench(sorts(LONG, LONG, LONG), sorts(LONG, LONG, LONG));
        due("work", x.work(0, 0, FORMULA, NONE, number), 0);
        due("times", x.times(0, 0, 0, first), 1);
        due("times", x.times(0, 0, 1, second), 1);
        return x;
    }

    /** What a FORMULA gives; none: its WORK FAILS. */
    private static void dueFormula(AdapterBench x, long first, long second, Long want) {
        hold(x, first, second);
        String what = "formula of " + first + " and " + second;
        if (want == null) {
            dueFailure(what, x, x.call(0, 0, 0), 2, NONE);
        } else {
            dueResult(what, x, x.call(0, 0, 0), want);
        }
    }

    private static void formulaSums() {
        Check.sentence("What is worked out beyond 64 bits at any addition FAILS (the number, then ARGUMENT by ARGUMENT)");
        AdapterBench x = formula(1000, 1, 1);
        dueFormula(x, LONGEST - 1000, 0, LONGEST);
        dueFormula(x, LONGEST - 999, 0, null);
        // From the left: beyond at the first addition, though all together is not.
        dueFormula(x, LONGEST - 999, -1, null);
        dueFormula(x, LONGEST - 1000, 1, null);
        dueFormula(x, LONGEST - 1000, -1, LONGEST - 1);
        dueFormula(x, LOWEST, -1000, LOWEST);
        dueFormula(x, LOWEST, -1001, null);
        dueFormula(x, -1, LONGEST, null);
        dueFormula(x, -1000, LONGEST, LONGEST);
        AdapterBench y = formula(-1000, 1, 1);
        dueFormula(y, LOWEST + 1000, 0, LOWEST);
        dueFormula(y, LOWEST + 999, 0, null);
        dueFormula(y, LOWEST + 999, 1, null);
        dueFormula(y, LOWEST + 1000, -1, null);
        dueFormula(y, LONGEST, 1000, LONGEST);
        dueFormula(y, LONGEST, 1001, null);
        dueFormula(y, LONGEST, LONGEST, null);
        dueFormula(y, LOWEST, LOWEST, null);
        AdapterBench z = formula(0, 1, 1);
        dueFormula(z, LONGEST, LONGEST, null);
        dueFormula(z, LOWEST, LOWEST, null);
        dueFormula(z, LOWEST, LONGEST, -1L);
        dueFormula(z, 1L << 62, 1L << 62, null);
        dueFormula(z, -(1L << 62), -(1L << 62), LOWEST);
        // Their bits and those of their sum are all the other way round.
        dueFormula(z, 0x5555555555555555L, 0x5555555555555555L, null);
    }

    private static void formulaProducts() {
        Check.sentence("What is worked out beyond 64 bits at any product FAILS");
        AdapterBench x = formula(0, 1000, 1);
        dueFormula(x, 9223372036854775L, 807, LONGEST);
        dueFormula(x, 9223372036854775L, 808, null);
        // The product alone is beyond; the sum would not be.
        dueFormula(x, 9223372036854776L, -1000, null);
        dueFormula(x, -9223372036854775L, -808, LOWEST);
        dueFormula(x, -9223372036854775L, -809, null);
        dueFormula(x, -9223372036854776L, 1000, null);
        dueFormula(x, 1L << 61, 0, null);
        AdapterBench y = formula(-1, -1, 1);
        dueFormula(y, LOWEST, 0, null);
        dueFormula(y, LOWEST + 1, 0, LONGEST - 1);
        dueFormula(y, LONGEST, 0, LOWEST);
        dueFormula(y, LONGEST, -1, null);
        AdapterBench z = formula(0, 0, -1000);
        dueFormula(z, LOWEST, 9223372036854775L, -9223372036854775000L);
        dueFormula(z, LONGEST, 9223372036854776L, null);
        dueFormula(z, LONGEST, -9223372036854775L, 9223372036854775000L);
        dueFormula(z, LONGEST, -9223372036854776L, null);
        dueFormula(z, LONGEST, LOWEST, null);
        AdapterBench w = formula(0, 2, -2);
        dueFormula(w, LONGEST / 2, 0, LONGEST - 1);
        dueFormula(w, LONGEST / 2 + 1, 0, null);
        dueFormula(w, LOWEST / 2, 0, LOWEST);
        dueFormula(w, LOWEST / 2 - 1, 0, null);
        dueFormula(w, 0, LOWEST / 2, null);
        dueFormula(w, 0, LOWEST / 2 + 1, LONGEST - 1);
    }

    private static void formulaField() {
        Check.sentence("then the FIELD (or none)");
        AdapterBench x = formula(0, 1, 1);
        for (int field = 0; field < 3; field++) {
            due("put", x.put(0, field, 10 * (field + 1)), 0);
        }
        for (int field = 0; field < 3; field++) {
            due("work", x.work(0, 0, FORMULA, field, 5), 0);
            dueFormula(x, 1, 1, 17L + 10 * field);
        }
        due("work", x.work(0, 0, FORMULA, 1, 0), 0);
        dueFormula(x, LONGEST - 20, 0, LONGEST);
        dueFormula(x, LONGEST - 19, 0, null);
        // From the left: the FIELD comes last and can't bring back what is beyond before it.
        due("put", x.put(0, 1, -20), 0);
        dueFormula(x, LONGEST, 1, null);
        dueFormula(x, LOWEST + 20, 0, LOWEST);
        dueFormula(x, LOWEST + 19, 0, null);
        due("put", x.put(0, 1, LOWEST), 0);
        dueFormula(x, LONGEST, 0, -1L);
        dueFormula(x, -1, 0, null);
        due("put", x.put(0, 1, LONGEST), 0);
        dueFormula(x, LOWEST, 0, -1L);
        dueFormula(x, 1, 0, null);
        due("work", x.work(0, 0, FORMULA, NONE, 0), 0);
        dueFormula(x, 1, 0, 1L);
        due("a FORMULA writes no FIELD", x.field(0, 0), 10);
        due("a FORMULA writes no FIELD", x.field(0, 1), LONGEST);
        due("a FORMULA writes no FIELD", x.field(0, 2), 30);
    }

    private static void read() {
        Check.sentence("1 READ: a FIELD's value (ARGUMENTS are not looked at)");
        AdapterBench x = bench(sorts(LONG, LONG, LONG), sorts(LONG, LONG, LONG));
        due("work", x.work(0, 0, READ, 2, 1000), 0);
        due("times", x.times(0, 0, 0, 1000), 1);
        due("put", x.put(0, 2, -3), 0);
        hold(x, LONGEST, LONGEST);
        dueResult("no sum", x, x.call(0, 0, 0), -3);
        due("put", x.put(0, 2, LONGEST), 0);
        dueResult("no number", x, x.call(0, 0, 0), LONGEST);
        due("it stays", x.field(0, 2), LONGEST);
        due("no other one", x.field(0, 0) | x.field(0, 1), 0);
    }

    private static void write() {
        Check.sentence("2 WRITE: a FIELD becomes the ARGUMENTS together (0 without); it gives what the FIELD was");
        AdapterBench x = bench(sorts(LONG, LONG, LONG), sorts(LONG, LONG, LONG));
        due("times", x.times(0, 0, 0, 1000), 1);
        for (int field = 0; field < 3; field++) {
            due("put", x.put(0, field, 70 + field), 0);
            due("work", x.work(0, 0, WRITE, field, 1000), 0);
            hold(x, 5, 6);
            dueResult("what it was", x, x.call(0, 0, 0), 70 + field);
            due("what it became: no number, no times", x.field(0, field), 11);
            dueResult("what it was then", x, x.call(0, 0, 0), 11);
        }
        AdapterBench y = bench(sorts(LONG), sorts(LONG));
        due("work", y.work(0, 0, WRITE, 1, 1000), 0);
        due("put", y.put(0, 1, LOWEST), 0);
        due("put", y.put(0, 2, 4), 0);
        dueResult("without ARGUMENTS", y, y.call(0, 0, 0), LOWEST);
        due("0 without", y.field(0, 1), 0);
        due("another stays", y.field(0, 2), 4);
    }

    private static void writeSums() {
        Check.sentence("beyond 64 bits at any addition (WRITE)");
        AdapterBench x = bench(sorts(LONG, LONG, LONG, LONG), sorts(LONG, LONG, LONG, LONG));
        due("work", x.work(0, 0, WRITE, 0, 0), 0);
        due("put", x.put(0, 0, 8), 0);
        hold(x, LONGEST, 1, -1);
        dueFailure("from the left", x, x.call(0, 0, 0), 2, NONE);
        due("stays", x.field(0, 0), 8);
        hold(x, LONGEST, -1, 1);
        dueResult("not beyond", x, x.call(0, 0, 0), 8);
        due("became", x.field(0, 0), LONGEST);
        hold(x, LOWEST, 0, -1);
        dueFailure("below", x, x.call(0, 0, 0), 2, NONE);
        due("stays", x.field(0, 0), LONGEST);
        hold(x, LOWEST, 1, -1);
        dueResult("not below", x, x.call(0, 0, 0), LONGEST);
        due("became", x.field(0, 0), LOWEST);
        hold(x, -1, -1, LOWEST);
        dueFailure("below at the last", x, x.call(0, 0, 0), 2, NONE);
        due("stays", x.field(0, 0), LOWEST);
    }

    private static void resultSorts() {
        for (int sort = 0; sort < 7; sort++) {
            Check.sentence("or is not of the RESULT's sort, FAILS: " + SORT[sort]);
            for (int kind = FORMULA; kind <= WRITE; kind++) {
                AdapterBench x = bench(sorts(sort), sorts(sort));
                due("work", x.work(0, 0, kind, 0, 0), 0);
                due("put", x.put(0, 0, FIRST[sort]), 0);
                dueResult("first", x, x.call(0, 0, 0), FIRST[sort]);
                due("put", x.put(0, 0, LAST[sort]), 0);
                dueResult("last", x, x.call(0, 0, 0), LAST[sort]);
                if (!isOf64(sort)) {
                    dueNotOfResult(x, FIRST[sort] - 1);
                    dueNotOfResult(x, LAST[sort] + 1);
                    dueNotOfResult(x, 1L << 40);
                    dueNotOfResult(x, LOWEST);
                }
            }
        }
    }

    private static void dueNotOfResult(AdapterBench x, long v) {
        long was = x.value();
        due("put", x.put(0, 0, v), 0);
        dueFailure("not of it: " + v, x, x.call(0, 0, 0), 2, NONE);
        due("the FIELD stays", x.field(0, 0), v);
        due("the value stays", x.value(), was);
    }

    private static void failedWorkChangesNoField() {
        Check.sentence("FAILS; then no FIELD changes");
        AdapterBench x = bench(sorts(LONG, LONG), sorts(BYTE, LONG));
        due("work", x.work(0, 0, WRITE, 1, 0), 0);
        due("put", x.put(0, 0, 1), 0);
        due("put", x.put(0, 1, 128), 0);
        due("put", x.put(0, 2, 3), 0);
        hold(x, 55);
        dueFailure("what it was is no BYTE", x, x.call(0, 0, 0), 2, NONE);
        due("field 0", x.field(0, 0), 1);
        due("field 1", x.field(0, 1), 128);
        due("field 2", x.field(0, 2), 3);
        due("put", x.put(0, 1, 127), 0);
        dueResult("it is one", x, x.call(0, 0, 0), 127);
        due("then it changes", x.field(0, 1), 55);
    }

    // ---- promise 6

    private static void askOutside() {
        Check.sentence("ask: OUTSIDE: face, name, sorts");
        AdapterBench x = new AdapterBench();
        for (int face : NO_SHAPE) {
            due("face " + face, x.ask(face, 0, 0), OUTSIDE);
        }
        for (int name : NO_NAME) {
            due("name " + name, x.ask(0, name, 0), OUTSIDE);
        }
        for (int sorts : NO_SORTS) {
            due("sorts " + sorts, x.ask(0, 0, sorts), OUTSIDE);
        }
        due("none came", x.count(4), 0);
        due("face 0", x.ask(0, 0, 0), 0);
        due("face 9", x.ask(9, 0, 0), 0);
        due("name 99", x.ask(0, 99, 0), 1);
    }

    private static void askSorts() {
        Check.sentence("of its octal digits the lowest is its RESULT's sort, the next ones are 1 more than its ARGUMENTS' in order");
        for (int sort = 0; sort < 7; sort++) {
            AdapterBench x = bench(sort, sort);
            due("a RESULT alone", x.fits(0, 0), 0);
            due("ask", x.ask(1, 7, LONG), 0);
            due("a RESULT turned to LONG", x.fits(1, 0), x.turning(sort, LONG, 0));
        }
        // 0_7543: SIGN, TRUTH, LONG behind the RESULT of LONG, from the right: LONG, TRUTH, SIGN.
        AdapterBench y = bench(0_7543, 0_7543);
        hold(y, LONGEST - 128, 1, 127);
        dueResult("in order", y, y.call(0, 0, 0), LONGEST);
        hold(y, 0, 2, 0);
        dueFailure("the second is a TRUTH", y, y.call(0, 0, 0), 0, NONE);
        hold(y, 0, 1, 128);
        dueFailure("the third is a SIGN", y, y.call(0, 0, 0), 0, NONE);
        AdapterBench z = bench(0_77776, 0_77776);
        due("the most there is", z.fits(0, 0), 0);
        due("all four", z.fit(0, 0, 0, 5), 3);
        AdapterBench w = bench(0_11110, 0_11110);
        due("four BYTES", w.fit(0, 0, 0, 5), 3);
        hold(w, 127, -128, 127, 1);
        dueResult("four BYTES", w, w.call(0, 0, 0), 127);
    }

    private static void askIsFull() {
        Check.sentence("ask: FULL, and what still works then");
        AdapterBench x = new AdapterBench();
        for (int i = 0; i < 6; i++) {
            due("ask", x.ask(3, i, sorts(LONG)), i);
        }
        due("full", x.ask(3, 0, sorts(LONG)), FULL);
        due("outside ahead of full: name", x.ask(3, 100, sorts(LONG)), OUTSIDE);
        due("outside ahead of full: sorts", x.ask(3, 0, 7), OUTSIDE);
        due("another face", x.ask(2, 0, sorts(LONG)), 0);
        due("the class of that number", x.offer(3, 5, sorts(LONG)), 0);
        due("it is asked about", x.fit(3, 5, 3, 1), 0);
        due("gap", x.gap(3, 3), 0);
        due("object", x.object(3), 0);
        due("it is called", x.call(0, 3, 5), 0);
        due("count", x.count(4), 7);
        due("strip", x.strip(true, 3), 6);
        for (int i = 0; i < 6; i++) {
            due("room again", x.ask(3, i, sorts(LONG)), i);
        }
        due("full again", x.ask(3, 0, sorts(LONG)), FULL);
    }

    // ---- promise 7

    private static void offerOutside() {
        Check.sentence("offer: OUTSIDE");
        AdapterBench x = new AdapterBench();
        for (int shape : NO_SHAPE) {
            due("class " + shape, x.offer(shape, 0, 0), OUTSIDE);
        }
        for (int name : NO_NAME) {
            due("name " + name, x.offer(0, name, 0), OUTSIDE);
        }
        for (int sorts : NO_SORTS) {
            due("sorts " + sorts, x.offer(0, 0, sorts), OUTSIDE);
        }
        due("none came", x.count(5), 0);
        due("class 0", x.offer(0, 0, 0), 0);
        due("class 9", x.offer(9, 0, 0), 0);
        due("name 99", x.offer(0, 99, 0_77776), 1);
    }

    private static void offerIsFull() {
        Check.sentence("offer: FULL, and what still works then");
        AdapterBench x = new AdapterBench();
        for (int i = 0; i < 6; i++) {
            due("offer", x.offer(3, i, sorts(LONG, LONG)), i);
        }
        due("full", x.offer(3, 0, sorts(LONG)), FULL);
        due("outside ahead of full: name", x.offer(3, -1, sorts(LONG)), OUTSIDE);
        due("outside ahead of full: sorts", x.offer(3, 0, 0_100), OUTSIDE);
        due("another class", x.offer(4, 0, sorts(LONG)), 0);
        due("the face of that number", x.ask(3, 5, sorts(LONG, LONG)), 0);
        due("work of the last", x.work(3, 5, FORMULA, NONE, 7), 0);
        due("times of the last", x.times(3, 5, 0, 3), 1);
        due("object", x.object(3), 0);
        hold(x, 100);
        dueResult("call of the last", x, x.call(0, 3, 0), 307);
        due("count", x.count(5), 7);
        due("strip", x.strip(false, 3), 6);
        for (int i = 0; i < 6; i++) {
            due("room again", x.offer(3, i, sorts(LONG)), i);
        }
        due("full again", x.offer(3, 0, sorts(LONG)), FULL);
    }

    private static void offerFirstWork() {
        Check.sentence("(at first a FORMULA with the number 0, each ARGUMENT times 1, and no FIELD)");
        int four = sorts(LONG, LONG, LONG, LONG, LONG);
        AdapterBench x = bench(four, four);
        for (int field = 0; field < 3; field++) {
            due("put", x.put(0, field, 10000), 0);
        }
        hold(x, 1, 20, 300, 4000);
        dueResult("together", x, x.call(0, 0, 0), 4321);
        due("fields stay", x.field(0, 0) + x.field(0, 1) + x.field(0, 2), 30000);
        for (int kind = FORMULA; kind <= WRITE; kind++) {
            due("work", x.work(0, 0, kind, 1, 1000), 0);
            for (int i = 0; i < 4; i++) {
                due("times", x.times(0, 0, i, 900 + i), 1);
            }
            due("strip", x.strip(false, 0), 1);
            due("offer", x.offer(0, 7, four), 0);
            dueResult("as at first", x, x.call(0, 0, 0), 4321);
        }
        due("fields stay", x.field(0, 0) + x.field(0, 1) + x.field(0, 2), 30000);
    }

    // ---- promise 8

    private static void workOutside() {
        Check.sentence("work: OUTSIDE: class, kind");
        AdapterBench x = bench(sorts(LONG), sorts(LONG));
        due("work", x.work(0, 0, FORMULA, NONE, 77), 0);
        for (int shape : NO_SHAPE) {
            due("class " + shape, x.work(shape, 0, FORMULA, NONE, 0), OUTSIDE);
        }
        int[] wrong = {-1, 3, 4, LEAST, MOST};
        for (int kind : wrong) {
            due("kind " + kind, x.work(0, 0, kind, 0, 0), OUTSIDE);
        }
        dueResult("as before", x, x.call(0, 0, 0), 77);
        for (int kind = FORMULA; kind <= WRITE; kind++) {
            due("kind " + kind, x.work(0, 0, kind, 0, 0), 0);
        }
    }

    private static void workField() {
        Check.sentence("work: a FIELD (0 .. 2; NONE in a FORMULA: none)");
        AdapterBench x = bench(sorts(LONG), sorts(LONG));
        due("work", x.work(0, 0, FORMULA, NONE, 77), 0);
        int[] wrong = {-2, 3, 4, LEAST, MOST};
        for (int kind = FORMULA; kind <= WRITE; kind++) {
            for (int field : wrong) {
                due("kind " + kind + ", field " + field, x.work(0, 0, kind, field, 0), OUTSIDE);
            }
        }
        due("none read", x.work(0, 0, READ, NONE, 0), OUTSIDE);
        due("none written", x.work(0, 0, WRITE, NONE, 0), OUTSIDE);
        dueResult("as before", x, x.call(0, 0, 0), 77);
        for (int field = 0; field < 3; field++) {
            due("put", x.put(0, field, 5 + field), 0);
            due("formula", x.work(0, 0, FORMULA, field, 70), 0);
            dueResult("formula", x, x.call(0, 0, 0), 75 + field);
            due("read", x.work(0, 0, READ, field, 70), 0);
            dueResult("read", x, x.call(0, 0, 0), 5 + field);
            due("write", x.work(0, 0, WRITE, field, 70), 0);
            dueResult("write", x, x.call(0, 0, 0), 5 + field);
            due("written", x.field(0, field), 0);
        }
        due("formula", x.work(0, 0, FORMULA, NONE, 70), 0);
        dueResult("no field", x, x.call(0, 0, 0), 70);
    }

    private static void workNumber() {
        Check.sentence("work: the number (-1000 .. 1000; not looked at but in a FORMULA)");
        AdapterBench x = bench(sorts(LONG), sorts(LONG));
        int[] right = {-1000, -999, 0, 999, 1000};
        for (int number : right) {
            due("number " + number, x.work(0, 0, FORMULA, NONE, number), 0);
            dueResult("is given", x, x.call(0, 0, 0), number);
        }
        int[] wrong = {-1001, 1001, LEAST, MOST};
        for (int number : wrong) {
            due("number " + number, x.work(0, 0, FORMULA, NONE, number), OUTSIDE);
            due("number " + number + " with a field", x.work(0, 0, FORMULA, 0, number), OUTSIDE);
            dueResult("as before", x, x.call(0, 0, 0), 1000);
        }
        for (int number : wrong) {
            due("read " + number, x.work(0, 0, READ, 0, number), 0);
            dueResult("read", x, x.call(0, 0, 0), 0);
            due("write " + number, x.work(0, 0, WRITE, 0, number), 0);
            dueResult("write", x, x.call(0, 0, 0), 0);
            due("nothing of it", x.field(0, 0), 0);
        }
    }

    private static void workEmpty() {
        Check.sentence("work: EMPTY: no such MEMBER");
        AdapterBench x = new AdapterBench();
        due("of an empty class", x.work(0, 0, FORMULA, NONE, 0), EMPTY);
        due("offer", x.offer(0, 7, sorts(LONG)), 0);
        due("offer", x.offer(0, 8, sorts(LONG)), 1);
        int[] none = {-1, 2, 5, 6, LEAST, MOST};
        for (int member : none) {
            due("member " + member, x.work(0, member, FORMULA, NONE, 5), EMPTY);
            due("outside ahead: class", x.work(10, member, FORMULA, NONE, 5), OUTSIDE);
            due("outside ahead: kind", x.work(0, member, 3, NONE, 5), OUTSIDE);
            due("outside ahead: field", x.work(0, member, FORMULA, 3, 5), OUTSIDE);
            due("outside ahead: number", x.work(0, member, FORMULA, NONE, 1001), OUTSIDE);
        }
        due("the last one", x.work(0, 1, FORMULA, NONE, 5), 0);
        due("strip", x.strip(false, 0), 2);
        due("no more", x.work(0, 1, FORMULA, NONE, 5), EMPTY);
        due("a FACE's MEMBER is none", x.ask(1, 7, sorts(LONG)), 0);
        due("a FACE's MEMBER is none", x.work(1, 0, FORMULA, NONE, 5), EMPTY);
    }

    // ---- promise 9

    private static void timesOutside() {
        Check.sentence("times: OUTSIDE: class (ahead of EMPTY)");
        AdapterBench x = new AdapterBench();
        for (int shape : NO_SHAPE) {
            due("class " + shape, x.times(shape, 0, 0, 0), OUTSIDE);
            due("ahead of all", x.times(shape, -1, -1, 1001), OUTSIDE);
        }
        due("offer", x.offer(9, 0, sorts(LONG, LONG)), 0);
        due("class 9", x.times(9, 0, 0, 0), 1);
        due("offer", x.offer(0, 0, sorts(LONG, LONG)), 0);
        due("class 0", x.times(0, 0, 0, 0), 1);
    }

    private static void timesEmpty() {
        Check.sentence("times: EMPTY: no such MEMBER; OUTSIDE: i, by");
        AdapterBench x = new AdapterBench();
        due("of an empty class", x.times(0, 0, 0, 1), EMPTY);
        due("ahead of i", x.times(0, 0, 4, 1), EMPTY);
        due("ahead of by", x.times(0, 0, 0, 1001), EMPTY);
        due("offer", x.offer(0, 0, sorts(LONG, LONG)), 0);
        int[] none = {-1, 1, 6, LEAST, MOST};
        for (int member : none) {
            due("member " + member, x.times(0, member, 0, 1), EMPTY);
            due("ahead of i and by", x.times(0, member, -1, LEAST), EMPTY);
        }
        due("a member", x.times(0, 0, 0, 1), 1);
        due("strip", x.strip(false, 0), 1);
        due("no more", x.times(0, 0, 0, 1), EMPTY);
    }

    private static void timesEnds() {
        Check.sentence("times: OUTSIDE: i, by (-1000 .. 1000); (1 at first): what it was");
        int[] wrongBy = {-1001, 1001, LEAST, MOST};
        for (int arity = 0; arity <= 4; arity++) {
            int[] longs = new int[arity];
            java.util.Arrays.fill(longs, LONG);
            AdapterBench x = bench(sorts(LONG, longs), sorts(LONG, longs));
            int[] wrongI = {-1, arity, 4, 5, LEAST, MOST};
            for (int i : wrongI) {
                due("of " + arity + ": i " + i, x.times(0, 0, i, 5), OUTSIDE);
            }
            for (int i = 0; i < arity; i++) {
                due("1 at first", x.times(0, 0, i, -1000), 1);
                for (int by : wrongBy) {
                    due("by " + by, x.times(0, 0, i, by), OUTSIDE);
                }
                due("what it was", x.times(0, 0, i, 1000), -1000);
                due("what it was", x.times(0, 0, i, 0), 1000);
                due("what it was", x.times(0, 0, i, i + 2), 0);
            }
            hold(x, 1, 10, 100, 1000);
            long[] together = {0, 2, 32, 432, 5432};
            dueResult("each its own", x, x.call(0, 0, 0), together[arity]);
        }
    }

    private static void timesOfOtherWork() {
        Check.sentence("(Also of a MEMBER that does other WORK.)");
        for (int kind = READ; kind <= WRITE; kind++) {
            AdapterBench x = bench(sorts(LONG, LONG), sorts(LONG, LONG));
            due("work", x.work(0, 0, kind, 0, 0), 0);
            due("1 at first", x.times(0, 0, 0, 7), 1);
            due("what it was", x.times(0, 0, 0, 8), 7);
            due("i", x.times(0, 0, 1, 8), OUTSIDE);
            due("by", x.times(0, 0, 0, 1001), OUTSIDE);
            hold(x, 3);
            dueResult("not in other WORK", x, x.call(0, 0, 0), 0);
            due("not in other WORK", x.field(0, 0), kind == WRITE ? 3 : 0);
            due("a FORMULA", x.work(0, 0, FORMULA, NONE, 0), 0);
            dueResult("then it counts", x, x.call(0, 0, 0), 24);
        }
    }

    // ---- promise 10

    private static void stripOutside() {
        Check.sentence("strip: OUTSIDE");
        AdapterBench x = new AdapterBench();
        for (int i = 0; i < 10; i++) {
            due("ask", x.ask(i, 0, sorts(LONG)), 0);
            due("offer", x.offer(i, 0, sorts(LONG)), 0);
        }
        for (int shape : NO_SHAPE) {
            due("face " + shape, x.strip(true, shape), OUTSIDE);
            due("class " + shape, x.strip(false, shape), OUTSIDE);
        }
        due("19", x.strip(false, 19), OUTSIDE);
        due("faces' members stay", x.count(4), 10);
        due("classes' members stay", x.count(5), 10);
        due("face 0", x.strip(true, 0), 1);
        due("face 9", x.strip(true, 9), 1);
        due("class 0", x.strip(false, 0), 1);
        due("class 9", x.strip(false, 9), 1);
        due("faces' members", x.count(4), 8);
        due("classes' members", x.count(5), 8);
    }

    private static void stripHowMany() {
        Check.sentence("A FACE (or CLASS) has no MEMBERS any more: how many it had");
        AdapterBench x = new AdapterBench();
        for (int many = 0; many <= 6; many++) {
            for (int i = 0; i < many; i++) {
                due("ask", x.ask(4, i, sorts(LONG)), i);
                due("offer", x.offer(4, i, sorts(LONG)), i);
            }
            due("the face", x.strip(true, 4), many);
            due("no member of it", x.fit(4, 0, 4, 0), EMPTY);
            due("the class keeps its own", x.count(5), many);
            due("the class", x.strip(false, 4), many);
            due("no member of it", x.times(4, 0, 0, 1), EMPTY);
            due("the face again", x.strip(true, 4), 0);
            due("the class again", x.strip(false, 4), 0);
        }
    }

    private static void stripLeavesObjects() {
        Check.sentence("(OBJECTS stay.)");
        AdapterBench x = bench(sorts(LONG), sorts(LONG));
        due("put", x.put(0, 0, 1), 0);
        due("put", x.put(0, 2, 3), 0);
        due("strip", x.strip(false, 0), 1);
        due("count", x.count(1), 1);
        due("field 0", x.field(0, 0), 1);
        due("field 2", x.field(0, 2), 3);
        due("put", x.put(0, 1, 2), 0);
        due("field 1", x.field(0, 1), 2);
        due("gap", x.call(0, 0, 0), GAP);
        due("the next number", x.object(0), 1);
        due("offer", x.offer(0, 7, sorts(LONG)), 0);
        due("work", x.work(0, 0, READ, 1, 0), 0);
        dueResult("of its class still", x, x.call(0, 0, 0), 2);
        due("strip the face", x.strip(true, 0), 1);
        due("count", x.count(1), 2);
        due("no member", x.call(0, 0, 0), EMPTY);
    }

    // ---- promise 11

    private static void aliasNames() {
        Check.sentence("alias: False also for no NAMES, or the same one");
        AdapterBench x = new AdapterBench();
        for (int name : NO_NAME) {
            due("name " + name, x.alias(name, 0, true), false);
            due("other " + name, x.alias(0, name, true), false);
            due("both " + name, x.alias(name, name, true), false);
            due("name off " + name, x.alias(name, 0, false), false);
            due("other off " + name, x.alias(0, name, false), false);
        }
        due("0 and 0", x.alias(0, 0, true), false);
        due("99 and 99", x.alias(99, 99, true), false);
        due("0 and 0 off", x.alias(0, 0, false), false);
        due("none told", x.count(2), 0);
        due("0 and 99", x.alias(0, 99, true), true);
        due("99 and 0", x.alias(99, 0, true), true);
        // 99, 0 must not be mistaken for what 100 * 98 and 100 would be.
        due("98 and 100", x.alias(98, 100, false), false);
        due("two told", x.count(2), 2);
    }

    private static void aliasIsNew() {
        Check.sentence("A NAME of FACES is met by another one (on), or not: whether that is new");
        AdapterBench x = new AdapterBench();
        due("ask", x.ask(0, 0, sorts(LONG)), 0);
        due("offer", x.offer(0, 99, sorts(LONG)), 0);
        due("gap", x.fits(0, 0), GAP);
        due("off, not told", x.alias(0, 99, false), false);
        due("on", x.alias(0, 99, true), true);
        due("met", x.fits(0, 0), 2);
        due("on again", x.alias(0, 99, true), false);
        due("count", x.count(2), 1);
        due("off", x.alias(0, 99, false), true);
        due("not met", x.fits(0, 0), GAP);
        due("off again", x.alias(0, 99, false), false);
        due("count", x.count(2), 0);
        due("the other way", x.alias(99, 0, true), true);
        due("does not meet", x.fits(0, 0), GAP);
        due("on again", x.alias(0, 99, true), true);
        due("met again", x.fits(0, 0), 2);
    }

    private static void aliasThirty() {
        Check.sentence("alias: False if 30 are told already, and what still works then");
        AdapterBench x = bench(sorts(LONG), sorts(LONG));
        for (int i = 0; i < 29; i++) {
            due("alias " + i, x.alias(i, i + 50, true), true);
        }
        due("the 30th", x.alias(7, 8, true), true);
        due("the 31st", x.alias(8, 7, true), false);
        due("count", x.count(2), 30);
        due("one that is told", x.alias(7, 8, true), false);
        due("one that is not told, off", x.alias(8, 7, false), false);
        due("call", x.call(0, 0, 0), 0);
        due("ask", x.ask(1, 28, sorts(LONG)), 0);
        due("offer", x.offer(1, 78, sorts(LONG)), 0);
        due("they are met", x.fits(1, 1), 2);
        due("one off", x.alias(28, 78, false), true);
        due("is not met", x.fits(1, 1), GAP);
        due("count", x.count(2), 29);
        due("room for one", x.alias(8, 7, true), true);
        due("no room", x.alias(28, 78, true), false);
        due("is not met", x.fits(1, 1), GAP);
        for (int i = 0; i < 28; i++) {
            due("all the others off", x.alias(i, i + 50, false), true);
        }
        due("count", x.count(2), 2);
        due("the 30th off", x.alias(7, 8, false), true);
        due("the last off", x.alias(8, 7, false), true);
        due("count", x.count(2), 0);
    }

    // ---- promise 12

    private static void constantOutside() {
        Check.sentence("constant: OUTSIDE: sort");
        AdapterBench x = new AdapterBench();
        int[] wrong = {-1, 7, 8, LEAST, MOST};
        for (int sort : wrong) {
            due("sort " + sort, x.constant(sort, true, 0), OUTSIDE);
            due("sort off " + sort, x.constant(sort, false, 0), OUTSIDE);
        }
        due("none told", x.count(3), 0);
        for (int sort = 0; sort < 7; sort++) {
            due("sort " + sort, x.constant(sort, true, 0), 0);
            due("count", x.count(3), sort + 1);
        }
        for (int sort = 0; sort < 7; sort++) {
            due("off " + sort, x.constant(sort, false, 0), 1);
            due("count", x.count(3), 6 - sort);
        }
    }

    private static void constantEnds() {
        for (int sort = 0; sort < 7; sort++) {
            Check.sentence("constant: OUTSIDE: or v is not of it: " + SORT[sort]);
            AdapterBench x = bench(sorts(sort), sorts(sort, sort));
            due("first", x.constant(sort, true, FIRST[sort]), 0);
            dueResult("is given", x, x.call(0, 0, 0), FIRST[sort]);
            due("last", x.constant(sort, true, LAST[sort]), 1);
            dueResult("is given", x, x.call(0, 0, 0), LAST[sort]);
            if (!isOf64(sort)) {
                long[] wrong = {FIRST[sort] - 1, LAST[sort] + 1, LOWEST, LONGEST, 1L << 32};
                for (long v : wrong) {
                    due("not of it", x.constant(sort, true, v), OUTSIDE);
                    dueResult("as before", x, x.call(0, 0, 0), LAST[sort]);
                    due("count", x.count(3), 1);
                }
                due("off", x.constant(sort, false, 0), 1);
                due("not of it, none told", x.constant(sort, true, FIRST[sort] - 1), OUTSIDE);
                due("still none", x.count(3), 0);
                due("gap", x.call(0, 0, 0), GAP);
            }
        }
    }

    private static void constantNotTold() {
        Check.sentence("or there is none: whether there was one: 1, 0 (v is looked at where it is told)");
        for (int sort = 0; sort < 7; sort++) {
            AdapterBench x = bench(sorts(sort), sorts(sort, sort));
            due("none", x.constant(sort, false, LOWEST), 0);
            due("none", x.constant(sort, false, LONGEST), 0);
            due("told", x.constant(sort, true, 1), 0);
            due("told again", x.constant(sort, true, 1), 1);
            due("off, whatever v", x.constant(sort, false, LOWEST), 1);
            due("gap", x.call(0, 0, 0), GAP);
            due("none", x.constant(sort, false, 1), 0);
            due("told anew", x.constant(sort, true, 0), 0);
            dueResult("is given", x, x.call(0, 0, 0), 0);
        }
    }
}
