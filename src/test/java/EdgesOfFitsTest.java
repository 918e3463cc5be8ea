/** The sentences of part 3 and of the promises 13 to 16 that name an edge, each with a test of its own. */
public final class EdgesOfFitsTest extends Dues {
    private static final int[] NO_FACE = {-1, 10, 11, 20, LEAST, MOST};
    private static final int[] NO_SHAPE = {-1, 20, 21, LEAST, MOST};

    private EdgesOfFitsTest() {
    }

    public static void main(String[] args) {
        sameName();
        toldName();
        noOneTwice();
        constantOfItsSort();
        costOfTurning();
        costOfPlace();
        costOfConstants();
        costOfLeftOver();
        costOfResult();
        leastCost();
        lesserPlaceAhead();
        firstArgumentAhead();
        constantBehindAll();
        constantBehindAllOfSeveral();
        fitOfLeastCost();
        fitOfLeastNumber();
        gapWithoutServer();
        allTogether();
        faceWithoutMembers();
        wayOfLeastCost();
        wayOfFewestFaces();
        wayByNumbers();
        wayNoFaceTwice();
        rulesChangeWays();
        facesChangeWays();
        namesAndConstantsChangeWays();
        fitWhat();
        fitOutside();
        fitEmpty();
        fitGap();
        fitsOutside();
        fitsGap();
        gapLeast();
        gapOutside();
        wayWhat();
        wayToItself();
        wayOutside();
        wayNone();
        Check.end("EdgesOfFitsTest");
    }

    // ---- part 3

    private static void sameName() {
        Check.sentence("A MEMBER c SERVES a MEMBER f of a FACE, if they have the same NAME");
        AdapterBench x = new AdapterBench();
        int[] names = {0, 1, 50, 98, 99};
        for (int i = 0; i < 5; i++) {
            due("ask", x.ask(i, names[i], sorts(LONG)), 0);
            due("offer", x.offer(i, names[i], sorts(LONG)), 0);
        }
        for (int i = 0; i < 25; i++) {
            due("face " + i / 5 + " by class " + i % 5, x.fits(i / 5, i % 5), i / 5 == i % 5 ? 0 : GAP);
        }
    }

    private static void toldName() {
        Check.sentence("or f's NAME is told to be met by c's (alias(); this costs 2)");
        AdapterBench x = new AdapterBench();
        due("ask", x.ask(0, 1, sorts(LONG)), 0);
        due("offer", x.offer(0, 2, sorts(LONG)), 0);
        due("offer", x.offer(1, 3, sorts(LONG)), 0);
        due("the other way round is not told", x.alias(2, 1, true), true);
        due("gap", x.fits(0, 0), GAP);
        due("told", x.alias(1, 2, true), true);
        due("costs 2", x.fits(0, 0), 2);
        due("not told on and on", x.alias(2, 3, true), true);
        due("1 is not met by 3", x.fits(0, 1), GAP);
        due("told, too", x.alias(1, 3, true), true);
        due("costs 2", x.fits(0, 1), 2);
        due("offer", x.offer(1, 1, sorts(LONG)), 1);
        dueFit("the same NAME costs none", x, 1, 0, 1);
        due("ask", x.ask(1, 2, sorts(LONG)), 0);
        due("face 1 asks for 2: class 1 has 3 and 1, at 2 each", x.fits(1, 1), 2);
        due("of equal ones the first", x.fit(1, 0, 1, 1), 0);
    }

    private static void noOneTwice() {
        Check.sentence("for each ARGUMENT of c either one of f, no one twice");
        AdapterBench x = bench(sorts(LONG, LONG), sorts(LONG, LONG, LONG));
        due("one is not enough for two", x.fits(0, 0), GAP);
        AdapterBench y = bench(sorts(LONG, LONG, LONG, LONG), sorts(LONG, LONG, LONG, LONG, LONG));
        due("three are not enough for four", y.fits(0, 0), GAP);
        due("constant", y.constant(LONG, true, 1), 0);
        dueFit("but with a CONSTANT", y, 0, 7, 0, 0, 1, 2, 9);
        // The first of f would do best for both of c, but only one has it.
        AdapterBench z = bench(sorts(LONG, LONG, TENTHS), sorts(LONG, LONG, LONG));
        dueFit("one each", z, 0, 6, 0, 0, 1);
        AdapterBench w = bench(sorts(LONG, TENTHS, LONG), sorts(LONG, LONG, LONG));
        dueFit("one each", w, 0, 6, 0, 0, 1);
    }

    private static void constantOfItsSort() {
        for (int sort = 0; sort < 7; sort++) {
            Check.sentence("or the CONSTANT of its sort, if one is told: " + SORT[sort]);
            AdapterBench x = bench(sorts(LONG), sorts(LONG, sort));
            due("none told", x.fits(0, 0), GAP);
            for (int other = 0; other < 7; other++) {
                if (other != sort) {
                    due("another sort's", x.constant(other, true, 1), 0);
                    due("does not do", x.fits(0, 0), GAP);
                }
            }
            due("its own", x.constant(sort, true, 1), 0);
            dueFit("does", x, 0, 7, 0, 9);
            due("no more", x.constant(sort, false, 1), 1);
            due("gap again", x.fits(0, 0), GAP);
        }
    }

    private static void costOfTurning() {
        Check.sentence("ITS COST: for each ARGUMENT of c: that of THE TURNING from the sort of f's to its own");
        AdapterBench x = new AdapterBench();
        for (int f = 0; f < 7; f++) {
            due("strip", x.strip(true, 0), f == 0 ? 0 : 1);
            due("ask", x.ask(0, 7, sorts(LONG, f)), 0);
            for (int c = 0; c < 7; c++) {
                due("strip", x.strip(false, 0), f + c == 0 ? 0 : 1);
                due("offer", x.offer(0, 7, sorts(LONG, c)), 0);
                due("from " + f + " to " + c, x.fits(0, 0), x.turning(f, c, 0));
            }
        }
        AdapterBench y = bench(sorts(LONG, SHORT, TENTHS, SIGN, LONG), sorts(LONG, LONG, LONG, LONG, LONG));
        dueFit("all four together: 2, 6, 4, 0", y, 0, 12, 0, 0, 1, 2, 3);
    }

    private static void costOfPlace() {
        Check.sentence("and 1 if their places differ");
        // c's one ARGUMENT, a SIGN, is at each place of f's; the others are dear.
        for (int place = 0; place < 4; place++) {
            int[] four = {TENTHS, TENTHS, TENTHS, TENTHS};
            four[place] = SIGN;
            AdapterBench x = bench(sorts(LONG, four), sorts(LONG, SIGN));
            dueFit("place " + place, x, 0, (place == 0 ? 0 : 1) + 12, 0, place);
        }
        AdapterBench y = bench(sorts(LONG, SIGN, TRUTH, LONG, TENTHS), sorts(LONG, TENTHS, LONG, TRUTH, SIGN));
        dueFit("all four differ", y, 0, 4, 0, 3, 2, 1, 0);
        AdapterBench z = bench(sorts(LONG, SIGN, TRUTH, LONG, TENTHS), sorts(LONG, TENTHS, TRUTH, LONG, SIGN));
        dueFit("two differ", z, 0, 2, 0, 3, 1, 2, 0);
    }

    private static void costOfConstants() {
        Check.sentence("7 for a CONSTANT");
        for (int many = 0; many <= 4; many++) {
            int[] truths = new int[many];
            java.util.Arrays.fill(truths, TRUTH);
            AdapterBench x = bench(sorts(LONG), sorts(LONG, truths));
            due("constant", x.constant(TRUTH, true, 1), 0);
            int[] nines = new int[many];
            java.util.Arrays.fill(nines, 9);
            dueFit("constants: " + many, x, 0, 7 * many, 0, nines);
        }
    }

    private static void costOfLeftOver() {
        Check.sentence("4 for each ARGUMENT of f that none takes");
        for (int asked = 0; asked <= 4; asked++) {
            for (int offered = 0; offered <= asked; offered++) {
                int[] f = new int[asked], c = new int[offered];
                AdapterBench x = bench(sorts(LONG, f), sorts(LONG, c));
                due(asked + " asked, " + offered + " offered", x.fits(0, 0), 4 * (asked - offered));
            }
        }
        AdapterBench y = bench(sorts(LONG, TENTHS, TENTHS), sorts(LONG, SIGN));
        due("constant", y.constant(SIGN, true, 1), 0);
        dueFit("a CONSTANT takes none", y, 0, 7 + 8, 0, 9);
    }

    private static void costOfResult() {
        Check.sentence("that of THE TURNING from c's RESULT to f's");
        for (int f = 0; f < 7; f++) {
            for (int c = 0; c < 7; c++) {
                AdapterBench x = bench(sorts(f), sorts(c));
                due("from " + c + " to " + f, x.fits(0, 0), x.turning(c, f, 0));
            }
        }
        AdapterBench y = bench(sorts(LONG), sorts(BYTE));
        due("3 up", y.fits(0, 0), 3);
        AdapterBench z = bench(sorts(BYTE), sorts(LONG));
        due("13 down", z.fits(0, 0), 13);
        due("rule", z.rule(LONG, BYTE, 2, numbers(1, 0)), 12);
        due("2 by a told one", z.fits(0, 0), 2);
    }

    private static void leastCost() {
        Check.sentence("Of several ASSIGNMENTS the one of least COST is taken");
        // LONG to SHORT costs 10 and SHORT to LONG 2, each at its own place; 2 by changing places.
        AdapterBench x = bench(sorts(LONG, LONG, SHORT), sorts(LONG, SHORT, LONG));
        dueFit("changed places", x, 0, 2, 0, 1, 0);
        due("rule", x.rule(LONG, SHORT, 1, numbers(1, 0)), 12);
        dueFit("3 against 2", x, 0, 2, 0, 1, 0);
        due("rule", x.rule(SHORT, LONG, 1, numbers(1, 0)), 13);
        dueFit("2 against 2: the first", x, 0, 2, 0, 0, 1);
        // What is cheap for the first of c can make the second dear.
        AdapterBench y = bench(sorts(LONG, INT, TENTHS), sorts(LONG, LONG, INT));
        // 0 1: 1 and 11; 1 0: 6 + 1 and 1.
        dueFit("both together count", y, 0, 8, 0, 1, 0);
        AdapterBench z = bench(sorts(LONG, TENTHS), sorts(LONG, SIGN));
        due("constant", z.constant(SIGN, true, 0), 0);
        dueFit("CONSTANT and left over 11, turned 21", z, 0, 11, 0, 9);
    }

    private static void lesserPlaceAhead() {
        Check.sentence("of several the first, compared ARGUMENT by ARGUMENT of c: f's lesser place ahead");
        AdapterBench x = bench(sorts(LONG, SHORT, INT), sorts(LONG, LONG));
        dueFit("2 against 1 and 1: place 0", x, 0, 6, 0, 0);
        AdapterBench y = bench(sorts(LONG, SHORT, LONG), sorts(LONG, LONG));
        dueFit("2 against 0 and 1: place 1", y, 0, 5, 0, 1);
        AdapterBench z = bench(sorts(LONG, TENTHS, LONG, LONG, LONG), sorts(LONG, LONG));
        dueFit("6 against 1, 1 and 1: place 1", z, 0, 13, 0, 1);
        AdapterBench w = bench(sorts(LONG, LONG, LONG, LONG, LONG), sorts(LONG, LONG, LONG, LONG, LONG));
        dueFit("all at their own", w, 0, 0, 0, 0, 1, 2, 3);
    }

    private static void firstArgumentAhead() {
        Check.sentence("compared ARGUMENT by ARGUMENT of c (the first that differs)");
        // Two of c, none at its own place: 2 3 and 3 2 cost the same.
        AdapterBench x = bench(sorts(LONG, TENTHS, TENTHS, LONG, LONG), sorts(LONG, LONG, LONG));
        dueFit("2 3 ahead of 3 2", x, 0, 10, 0, 2, 3);
        // c's SIGN may be any of the three behind the first.
        AdapterBench y = bench(sorts(LONG, TENTHS, SIGN, SIGN, SIGN), sorts(LONG, SIGN, TENTHS));
        dueFit("1 0 ahead of 2 0 and 3 0", y, 0, 10, 0, 1, 0);
        // Only the own places cost no more than the two turned INTS.
        AdapterBench z = bench(sorts(LONG, INT, LONG, INT), sorts(LONG, LONG, LONG, LONG));
        dueFit("0 1 2", z, 0, 2, 0, 0, 1, 2);
    }

    private static void constantBehindAll() {
        Check.sentence("a CONSTANT behind all");
        int[] costs = {10, 11, 12};
        for (int cost : costs) {
            AdapterBench x = bench(sorts(LONG, LONG), sorts(LONG, SIGN));
            due("rule", x.rule(LONG, SIGN, cost, numbers(1, 0)), 12);
            due("constant", x.constant(SIGN, true, 1), 0);
            // A CONSTANT costs 7, and 4 for the one left over.
            dueFit("turned at " + cost, x, 0, Math.min(cost, 11), 0, cost <= 11 ? 0 : 9);
        }
        for (int cost : costs) {
            AdapterBench x = bench(sorts(LONG, TENTHS, LONG), sorts(LONG, SIGN));
            due("rule", x.rule(LONG, SIGN, cost, numbers(1, 0)), 12);
            due("constant", x.constant(SIGN, true, 1), 0);
            // The second place costs 1 more, and one is left over anyway.
            dueFit("moved, turned at " + cost, x, 0, Math.min(cost + 1, 11) + 4, 0, cost <= 10 ? 1 : 9);
        }
    }

    private static void constantBehindAllOfSeveral() {
        Check.sentence("a CONSTANT behind all (of two ARGUMENTS, both with a CONSTANT)");
        AdapterBench x = bench(sorts(LONG, BYTE), sorts(LONG, INT, SHORT));
        due("constant", x.constant(INT, true, 1), 0);
        due("constant", x.constant(SHORT, true, 1), 0);
        dueFit("0 9 at 2 + 7, 9 0 at 7 + 1 + 1", x, 0, 9, 0, 0, 9);
        AdapterBench y = bench(sorts(LONG, SHORT), sorts(LONG, LONG, SHORT));
        due("constant", y.constant(LONG, true, 1), 0);
        due("constant", y.constant(SHORT, true, 1), 0);
        dueFit("0 9 at 2 + 7, 9 0 at 7 + 1", y, 0, 8, 0, 9, 0);
    }

    private static void fitOfLeastCost() {
        Check.sentence("THE FIT of f by a SHAPE: the MEMBER of it that serves f at the least COST");
        AdapterBench x = new AdapterBench();
        due("ask", x.ask(0, 1, sorts(LONG)), 0);
        int[] results = {TENTHS, BYTE, SHORT, INT, LONG};
        int[] costs = {6, 3, 2, 1, 0};
        for (int i = 0; i < 5; i++) {
            due("offer", x.offer(0, 1, sorts(results[i])), i);
            dueFit("the newest", x, 0, costs[i], i);
        }
        due("offer", x.offer(0, 1, sorts(INT)), 5);
        dueFit("a dearer one behind", x, 0, 0, 4);
    }

    private static void fitOfLeastNumber() {
        Check.sentence("(of several the one with the least number)");
        AdapterBench x = new AdapterBench();
        due("ask", x.ask(0, 1, sorts(LONG, LONG)), 0);
        due("offer", x.offer(0, 2, sorts(LONG, LONG)), 0);
        for (int i = 1; i < 6; i++) {
            due("offer", x.offer(0, 1, sorts(INT, LONG)), i);
        }
        dueFit("the first of five", x, 0, 1, 1, 0);
        due("alias", x.alias(1, 2, true), true);
        dueFit("2 for the name is dearer", x, 0, 1, 1, 0);
        // By 2 for the NAME, or by 2 for a RESULT.
        AdapterBench y = new AdapterBench();
        due("ask", y.ask(0, 1, sorts(LONG)), 0);
        due("offer", y.offer(0, 1, sorts(SHORT)), 0);
        due("offer", y.offer(0, 2, sorts(LONG)), 1);
        due("offer", y.offer(1, 2, sorts(LONG)), 0);
        due("offer", y.offer(1, 1, sorts(SHORT)), 1);
        due("alias", y.alias(1, 2, true), true);
        dueFit("the own NAME is first", y, 0, 2, 0);
        dueFit("the other NAME is first", y, 1, 2, 0);
    }

    private static void gapWithoutServer() {
        Check.sentence("GAP: there is none");
        AdapterBench x = new AdapterBench();
        due("ask", x.ask(0, 1, sorts(LONG)), 0);
        due("by a class without MEMBERS", x.fit(0, 0, 0, 0), GAP);
        due("by a face without MEMBERS", x.fit(0, 0, 11, 0), GAP);
        due("offer", x.offer(0, 2, sorts(LONG)), 0);
        due("another NAME", x.fit(0, 0, 0, 0), GAP);
        due("offer", x.offer(0, 1, sorts(LONG, LONG)), 1);
        due("an ARGUMENT too many", x.fit(0, 0, 0, 0), GAP);
        due("offer", x.offer(0, 1, sorts(TENTHS)), 2);
        due("one that serves", x.fit(0, 0, 0, 1), 2);
    }

    private static void allTogether() {
        Check.sentence("A SHAPE FITS a FACE if no MEMBER of that is a GAP; the COST is that of all its MEMBERS' FITS together");
        AdapterBench x = new AdapterBench();
        int[] results = {BYTE, SHORT, INT, LONG, TENTHS, SIGN};
        due("offer", x.offer(0, 1, sorts(BYTE)), 0);
        int[] together = {0, 1, 3, 6, 12, 18};
        for (int i = 0; i < 6; i++) {
            due("ask", x.ask(0, 1, sorts(results[i])), i);
            due("one may serve all", x.fits(0, 0), together[i]);
        }
        due("it needs no MEMBER of its own", x.fits(1, 0), 0);
        AdapterBench y = new AdapterBench();
        for (int i = 0; i < 6; i++) {
            due("ask", y.ask(0, i, sorts(LONG)), i);
        }
        for (int i = 0; i < 6; i++) {
            due("gap still", y.fits(0, 9), GAP);
            due("offer", y.offer(9, 5 - i, sorts(LONG)), i);
        }
        due("now it fits", y.fits(0, 9), 0);
    }

    private static void faceWithoutMembers() {
        Check.sentence("(0 of a FACE without MEMBERS)");
        AdapterBench x = new AdapterBench();
        for (int shape = 0; shape < 20; shape++) {
            due("by shape " + shape, x.fits(5, shape), 0);
            due("no gap by shape " + shape, x.gap(5, shape), NONE);
        }
        due("offer", x.offer(3, 1, sorts(LONG)), 0);
        due("by a class with MEMBERS", x.fits(5, 3), 0);
        due("ask", x.ask(5, 1, sorts(LONG)), 0);
        due("strip", x.strip(true, 5), 1);
        due("stripped", x.fits(5, 0), 0);
    }

    /** Ten FACES, each with one MEMBER of its own NAME; a step from one to another costs 2 if it is told. */
    private static AdapterBench steps(int... pairs) {
        AdapterBench x = new AdapterBench();
        for (int i = 0; i < 10; i++) {
            due("ask", x.ask(i, i, sorts(LONG)), 0);
        }
        for (int pair : pairs) {
            due("alias", x.alias(pair % 10, pair / 10, true), true);
        }
        return x;
    }

    private static void wayOfLeastCost() {
        Check.sentence("THE WAY is the one of least COST");
        AdapterBench x = steps(1, 12, 29);
        dueWay("one row", x, 0, 9, 6, 0, 1, 2, 9);
        due("ask", x.ask(0, 9, sorts(TENTHS)), 1);
        // The FACES ahead ask for no second MEMBER, so only the step from 0 to 9 is new: at 6.
        dueWay("6 against 6: fewest FACES", x, 0, 9, 6, 0, 9);
        due("alias", x.alias(9, 1, true), true);
        dueWay("4 against 6: though more FACES", x, 0, 9, 4, 0, 1, 9);
        due("strip", x.strip(true, 1), 1);
        dueWay("a FACE without MEMBERS leads nowhere", x, 0, 9, 6, 0, 9);
    }

    private static void wayOfFewestFaces() {
        Check.sentence("of several that of fewest FACES");
        AdapterBench x = new AdapterBench();
        due("ask", x.ask(9, 1, sorts(LONG)), 0);
        for (int i = 8; i >= 0; i--) {
            due("ask", x.ask(i, 1, sorts(LONG)), 0);
        }
        for (int i = 0; i < 100; i++) {
            int from = i / 10, to = i % 10;
            if (from != to) {
                dueWay("at 0 from " + from + " to " + to, x, from, to, 0, from, to);
            }
        }
    }

    private static void wayByNumbers() {
        Check.sentence("of these the first, compared by FACES' numbers");
        AdapterBench x = steps(1, 15, 59, 2, 23, 39);
        dueWay("the first that differs counts", x, 0, 9, 6, 0, 1, 5, 9);
        due("off", x.alias(5, 1, false), true);
        dueWay("the other", x, 0, 9, 6, 0, 2, 3, 9);
        due("on", x.alias(5, 2, true), true);
        dueWay("then the next", x, 0, 9, 6, 0, 2, 3, 9);
        due("off", x.alias(3, 2, false), true);
        dueWay("then the next, the other", x, 0, 9, 6, 0, 2, 5, 9);
        due("on", x.alias(4, 0, true), true);
        due("on", x.alias(9, 4, true), true);
        dueWay("fewer FACES ahead of lesser numbers", x, 0, 9, 4, 0, 4, 9);
        AdapterBench y = steps(98, 80, 97, 70, 96, 60);
        dueWay("backwards", y, 9, 0, 4, 9, 6, 0);
        due("off", y.alias(6, 9, false), true);
        dueWay("backwards, the next", y, 9, 0, 4, 9, 7, 0);
    }

    private static void wayNoFaceTwice() {
        Check.sentence("a row of FACES, the first and the last being these, no one twice, each (as a SHAPE) FITTING the next");
        AdapterBench x = steps(1, 12, 20, 23);
        dueWay("around and on", x, 0, 3, 6, 0, 1, 2, 3);
        dueWay("from the middle", x, 2, 1, 4, 2, 0, 1);
        due("the step is told one way", x.way(3, 2, 0), NONE);
        AdapterBench y = chain(9);
        dueWay("all ten FACES", y, 0, 9, 18, 0, 1, 2, 3, 4, 5, 6, 7, 8, 9);
        due("none back", y.way(9, 0, 0), NONE);
        due("strip", y.strip(true, 5), 1);
        due("broken", y.way(0, 9, 0), NONE);
        dueWay("up to the FACE without MEMBERS", y, 0, 5, 0, 0, 5);
    }

    private static void rulesChangeWays() {
        Check.sentence("All that is told changes what comes behind at once (RULES and WAYS)");
        AdapterBench x = new AdapterBench();
        due("ask", x.ask(3, 1, sorts(LONG)), 0);
        due("ask", x.ask(6, 1, sorts(TENTHS)), 0);
        dueWay("by RULE 9", x, 6, 3, 6, 6, 3);
        dueWay("by RULE 8", x, 3, 6, 3, 3, 6);
        due("rule", x.rule(TENTHS, LONG, 5, 0), 12);
        dueWay("by a cheaper one", x, 6, 3, 5, 6, 3);
        due("rule", x.rule(LONG, TENTHS, 1, 0), 13);
        dueWay("by another cheaper one", x, 3, 6, 1, 3, 6);
        due("drop", x.drop(12), 1);
        dueWay("by RULE 9 again", x, 6, 3, 6, 6, 3);
        due("drop", x.drop(13), 1);
        dueWay("by RULE 8 again", x, 3, 6, 3, 3, 6);
    }

    private static void facesChangeWays() {
        for (int i = 0; i < 90; i++) {
            int one = i / 9, other = (one + 1 + i % 9) % 10;
            Check.sentence("All that is told changes what comes behind at once (FACES " + one + ", " + other + " and WAYS)");
            AdapterBench x = new AdapterBench();
            dueWay("both without MEMBERS", x, one, other, 0, one, other);
            due("ask", x.ask(one, 1, sorts(LONG)), 0);
            dueWay("to one without", x, one, other, 0, one, other);
            due("from one without", x.way(other, one, 0), NONE);
            due("ask", x.ask(other, 1, sorts(INT)), 0);
            dueWay("LONG to INT", x, one, other, 5, one, other);
            dueWay("INT to LONG", x, other, one, 1, other, one);
            due("ask", x.ask(other, 1, sorts(LONG)), 1);
            dueWay("LONG to INT, and to LONG", x, one, other, 5, one, other);
            dueWay("a better MEMBER", x, other, one, 0, other, one);
            due("ask", x.ask(one, 2, sorts(LONG)), 1);
            due("a GAP", x.way(other, one, 0), NONE);
            dueWay("no GAP", x, one, other, 5, one, other);
            due("strip", x.strip(true, one), 2);
            due("from one without", x.way(one, other, 0), NONE);
            dueWay("to one without", x, other, one, 0, other, one);
            due("strip", x.strip(true, other), 2);
            dueWay("both without", x, one, other, 0, one, other);
        }
    }

    private static void namesAndConstantsChangeWays() {
        Check.sentence("All that is told changes what comes behind at once (aliases, CONSTANTS and WAYS)");
        AdapterBench x = new AdapterBench();
        due("ask", x.ask(3, 1, sorts(LONG, SIGN)), 0);
        due("ask", x.ask(6, 2, sorts(LONG)), 0);
        due("no way", x.way(3, 6, 0), NONE);
        due("alias", x.alias(2, 1, true), true);
        due("no way yet", x.way(3, 6, 0), NONE);
        due("constant", x.constant(SIGN, true, 5), 0);
        dueWay("a way", x, 3, 6, 9, 3, 6);
        due("another", x.constant(SIGN, true, 6), 1);
        dueWay("a way still", x, 3, 6, 9, 3, 6);
        due("refused", x.constant(SIGN, true, 128), OUTSIDE);
        dueWay("a way still", x, 3, 6, 9, 3, 6);
        due("off", x.constant(SIGN, false, 0), 1);
        due("no way", x.way(3, 6, 0), NONE);
        due("on", x.constant(SIGN, true, 0), 0);
        due("alias", x.alias(2, 1, false), true);
        due("no way", x.way(3, 6, 0), NONE);
        due("alias", x.alias(2, 1, true), true);
        dueWay("a way again", x, 3, 6, 9, 3, 6);
    }

    // ---- promise 13

    private static void fitWhat() {
        Check.sentence("what 0 its COST, 1 the MEMBER that serves, 2 to 5 the place of f's that it takes, 9 for a CONSTANT (NONE: it has no such one)");
        AdapterBench x = new AdapterBench();
        due("ask", x.ask(9, 1, sorts(LONG, SIGN, TENTHS, LONG)), 0);
        due("ask", x.ask(9, 1, sorts(INT, TENTHS, SIGN)), 1);
        due("offer", x.offer(9, 2, sorts(LONG)), 0);
        due("offer", x.offer(9, 1, sorts(LONG, TENTHS, TRUTH, LONG, SIGN)), 1);
        due("constant", x.constant(TRUTH, true, 1), 0);
        // TENTHS and SIGN change places: 2; LONG stays; TRUTH is a CONSTANT: 7.
        int[] first = {9, 1, 1, 9, 2, 0};
        for (int what = 0; what < 6; what++) {
            due("class 9, what " + what, x.fit(9, 0, 9, what), first[what]);
        }
        // By the FACE itself: its own MEMBER costs nothing, and takes two.
        int[] second = {0, 1, 0, 1, NONE, NONE};
        for (int what = 0; what < 6; what++) {
            due("face 9, what " + what, x.fit(9, 1, 19, what), second[what]);
        }
        due("offer", x.offer(0, 1, sorts(LONG)), 0);
        for (int what = 2; what < 6; what++) {
            due("no ARGUMENTS, what " + what, x.fit(9, 0, 0, what), NONE);
        }
    }

    private static void fitOutside() {
        Check.sentence("fit: OUTSIDE: face, shape, what (0 .. 5)");
        AdapterBench x = new AdapterBench();
        due("ask", x.ask(0, 7, sorts(LONG)), 0);
        due("ask", x.ask(9, 7, sorts(LONG)), 0);
        for (int face : NO_FACE) {
            due("face " + face, x.fit(face, 0, 0, 0), OUTSIDE);
        }
        for (int shape : NO_SHAPE) {
            due("shape " + shape, x.fit(0, 0, shape, 0), OUTSIDE);
        }
        int[] wrong = {-1, 6, 7, 9, LEAST, MOST};
        for (int what : wrong) {
            due("what " + what, x.fit(0, 0, 10, what), OUTSIDE);
        }
        due("by class 0", x.fit(0, 0, 0, 0), GAP);
        due("by class 9", x.fit(0, 0, 9, 0), GAP);
        due("by face 0", x.fit(0, 0, 10, 0), 0);
        due("by face 9", x.fit(0, 0, 19, 0), 0);
        due("of face 9", x.fit(9, 0, 10, 1), 0);
    }

    private static void fitEmpty() {
        Check.sentence("fit: EMPTY: the FACE has no such MEMBER (behind OUTSIDE, ahead of GAP)");
        AdapterBench x = new AdapterBench();
        due("no member 0", x.fit(0, 0, 10, 0), EMPTY);
        due("ask", x.ask(0, 7, sorts(LONG)), 0);
        due("ask", x.ask(0, 7, sorts(LONG)), 1);
        int[] none = {-1, 2, 5, 6, LEAST, MOST};
        for (int member : none) {
            due("member " + member, x.fit(0, member, 10, 0), EMPTY);
            due("ahead of gap", x.fit(0, member, 0, 0), EMPTY);
            due("outside ahead: face", x.fit(10, member, 0, 0), OUTSIDE);
            due("outside ahead: shape", x.fit(0, member, 20, 0), OUTSIDE);
            due("outside ahead: what", x.fit(0, member, 0, 6), OUTSIDE);
        }
        due("member 1", x.fit(0, 1, 10, 1), 0);
        due("a CLASS's MEMBERS are none of the FACE's", x.offer(0, 7, sorts(LONG)), 0);
        due("still two", x.fit(0, 2, 0, 0), EMPTY);
    }

    private static void fitGap() {
        Check.sentence("fit: GAP");
        AdapterBench x = new AdapterBench();
        due("ask", x.ask(0, 7, sorts(LONG)), 0);
        for (int what = 0; what < 6; what++) {
            due("what " + what + " by a class", x.fit(0, 0, 4, what), GAP);
            due("what " + what + " by a face", x.fit(0, 0, 14, what), GAP);
        }
        due("outside ahead", x.fit(0, 0, 4, 6), OUTSIDE);
    }

    // ---- promise 14

    private static void fitsOutside() {
        Check.sentence("fits: OUTSIDE");
        AdapterBench x = new AdapterBench();
        for (int face : NO_FACE) {
            due("face " + face, x.fits(face, 0), OUTSIDE);
        }
        for (int shape : NO_SHAPE) {
            due("shape " + shape, x.fits(0, shape), OUTSIDE);
        }
        due("face 0 by shape 0", x.fits(0, 0), 0);
        due("face 9 by shape 19", x.fits(9, 19), 0);
        due("ask", x.ask(9, 1, sorts(LONG)), 0);
        due("face 9 by itself", x.fits(9, 19), 0);
        due("face 9 by class 9", x.fits(9, 9), GAP);
        due("face 9 by face 0", x.fits(9, 10), GAP);
        due("outside ahead of gap", x.fits(9, 20), OUTSIDE);
    }

    private static void fitsGap() {
        Check.sentence("fits: GAP: it does not");
        AdapterBench x = new AdapterBench();
        for (int i = 0; i < 6; i++) {
            due("ask", x.ask(0, i, sorts(LONG)), i);
        }
        for (int gap = 0; gap < 6; gap++) {
            for (int i = 0; i < 6; i++) {
                due("offer", x.offer(gap, i == gap ? 99 : i, sorts(LONG)), i);
            }
            due("one GAP is enough", x.fits(0, gap), GAP);
            due("which", x.gap(0, gap), gap);
        }
        due("alias", x.alias(5, 99, true), true);
        due("none is left", x.fits(0, 5), 2);
        due("one is left", x.fits(0, 4), GAP);
    }

    // ---- promise 15

    private static void gapLeast() {
        Check.sentence("The least MEMBER of a FACE that is a GAP by a SHAPE; NONE: it FITS");
        AdapterBench x = new AdapterBench();
        for (int i = 0; i < 6; i++) {
            due("ask", x.ask(0, i, sorts(LONG)), i);
        }
        for (int i = 0; i < 6; i++) {
            due("the least", x.gap(0, 1), i);
            due("by a face as well", x.gap(0, 11), i);
            due("offer", x.offer(1, i, sorts(LONG)), i);
            due("ask", x.ask(1, i, sorts(LONG)), i);
        }
        due("it fits", x.gap(0, 1), NONE);
        due("by a face as well", x.gap(0, 11), NONE);
        due("by itself", x.gap(0, 10), NONE);
        due("a face without MEMBERS", x.gap(2, 3), NONE);
    }

    private static void gapOutside() {
        Check.sentence("gap: OUTSIDE");
        AdapterBench x = new AdapterBench();
        for (int face : NO_FACE) {
            due("face " + face, x.gap(face, 0), OUTSIDE);
        }
        for (int shape : NO_SHAPE) {
            due("shape " + shape, x.gap(0, shape), OUTSIDE);
        }
        due("face 0 by shape 0", x.gap(0, 0), NONE);
        due("face 9 by shape 19", x.gap(9, 19), NONE);
        due("ask", x.ask(9, 1, sorts(LONG)), 0);
        due("face 9 by class 9", x.gap(9, 9), 0);
        due("face 9 by itself", x.gap(9, 19), NONE);
    }

    // ---- promise 16

    private static void wayWhat() {
        Check.sentence("way: what 0 its COST, 1 how many FACES, 2 and above: FACE what - 2 of it");
        AdapterBench x = chain(9);
        int[] whole = {18, 10, 0, 1, 2, 3, 4, 5, 6, 7, 8, 9, NONE, NONE, NONE};
        for (int what = 0; what < whole.length; what++) {
            due("what " + what, x.way(0, 9, what), whole[what]);
        }
        int[] part = {4, 3, 7, 8, 9, NONE, NONE};
        for (int what = 0; what < part.length; what++) {
            due("what " + what, x.way(7, 9, what), part[what]);
        }
    }

    private static void wayToItself() {
        Check.sentence("(or to itself: that FACE alone)");
        AdapterBench x = chain(9);
        due("alias", x.alias(0, 9, true), true);
        AdapterBench y = new AdapterBench();
        for (int face = 0; face < 10; face++) {
            dueWay("face " + face, x, face, face, 0, face);
            dueWay("without MEMBERS", y, face, face, 0, face);
        }
    }

    private static void wayOutside() {
        Check.sentence("way: OUTSIDE: faces, what below 0");
        AdapterBench x = chain(9);
        for (int face : NO_FACE) {
            due("from " + face, x.way(face, 0, 0), OUTSIDE);
            due("to " + face, x.way(0, face, 0), OUTSIDE);
            due("both " + face, x.way(face, face, 0), OUTSIDE);
        }
        due("what -1", x.way(0, 9, -1), OUTSIDE);
        due("what lowest", x.way(0, 9, LEAST), OUTSIDE);
        due("ahead of none", x.way(9, 0, -1), OUTSIDE);
        due("face 0 to 9", x.way(0, 9, 0), 18);
    }

    private static void wayNone() {
        Check.sentence("way: NONE: there is none such");
        AdapterBench x = chain(9);
        for (int what = 0; what < 5; what++) {
            due("no way", x.way(9, 0, what), NONE);
        }
        due("no way, far", x.way(9, 0, MOST), NONE);
        due("behind the last", x.way(3, 4, 4), NONE);
        due("far behind the last", x.way(3, 4, MOST), NONE);
        due("behind the one", x.way(3, 3, 3), NONE);
        due("behind all ten", x.way(0, 9, 12), NONE);
    }
}
