import java.math.BigInteger;
import java.util.ArrayList;
import java.util.Arrays;
import java.util.List;

/**
 * The document again, by brute force and with big numbers: every row of RULES, every ASSIGNMENT and
 * every row of FACES is listed and the best one picked. It shares nothing with the class but the words.
 */
final class Model {
    static final int NONE = -1, EMPTY = -2, OUTSIDE = -3, FULL = -5, GAP = -6, FAILS = -7;

    private record Rule(int from, int to, int cost, BigInteger times, BigInteger plus) {
    }

    private static final class Part {
        int name;
        int result;
        List<Integer> sorts = new ArrayList<>();
        int kind = 0;
        int field = NONE;
        long number = 0;
        long[] times = {1, 1, 1, 1};
    }

    /** A choice: what it costs, and what ties are told apart by (shorter first, then in order). */
    private record Row(int cost, List<Integer> steps) {
        boolean isAheadOf(Row other) {
            if (other == null || cost != other.cost) {
                return other == null || cost < other.cost;
            }
            if (steps.size() != other.steps.size()) {
                return steps.size() < other.steps.size();
            }
            for (int i = 0; i < steps.size(); i++) {
                if (!steps.get(i).equals(other.steps.get(i))) {
                    return steps.get(i) < other.steps.get(i);
                }
            }
            return false;
        }
    }

    private record Fit(int cost, int member, List<Integer> takes) {
    }

    private static final class Failure extends Exception {
        private static final long serialVersionUID = 1;
        final int where;
        final int rule;

        Failure(int where, int rule) {
            super("", null, false, false);
            this.where = where;
            this.rule = rule;
        }
    }

    private static final String[] LEAST = {"-128", "-32768", "-2147483648", "-9223372036854775808", "0",
        "-9223372036854775808", "0"};
    private static final String[] MOST = {"127", "32767", "2147483647", "9223372036854775807", "1",
        "9223372036854775807", "127"};

    private final List<Rule> rules = new ArrayList<>();
    private final Row[] turnings = new Row[49];
    private int[][] faceCosts = null;
    private final List<List<Part>> classes = new ArrayList<>();
    private final List<List<Part>> faces = new ArrayList<>();
    private final List<String> aliases = new ArrayList<>();
    private final Long[] constants = new Long[7];
    private final List<Integer> objects = new ArrayList<>();
    private final long[][] fields = new long[20][3];
    private final long[] hand = new long[4];
    private long value = 0;
    private int where = NONE;
    private int brokenRule = NONE;
    private int done = 0;
    private int broken = 0;

    Model() {
        int[][] built = {{0, 1, 1}, {1, 2, 1}, {2, 3, 1}, {3, 2, 5}, {2, 1, 5}, {1, 0, 5}, {4, 0, 2}, {2, 4, 6},
            {3, 5, 3}, {5, 3, 6}, {6, 1, 2}, {1, 6, 5}};
        for (int[] b : built) {
            rules.add(new Rule(b[0], b[1], b[2], BigInteger.valueOf(rules.size() == 8 ? 10 : 1), BigInteger.ZERO));
        }
        for (int i = 0; i < 10; i++) {
            classes.add(new ArrayList<>());
            faces.add(new ArrayList<>());
        }
    }

    // ---- rules

    int rule(int from, int to, int cost, int numbers) {
        forget();
        if (noSort(from) || noSort(to) || from == to || cost < 1 || cost > 50) {
            return OUTSIDE;
        }
        if (numbers < 0 || numbers > 20002000 || numbers % 10000 > 2000) {
            return OUTSIDE;
        }
        if (rules.size() == 32) {
            return FULL;
        }
        rules.add(new Rule(from, to, cost, BigInteger.valueOf(numbers / 10000 - 1000),
            BigInteger.valueOf(numbers % 10000 - 1000)));
        return rules.size() - 1;
    }

    int drop(int rule) {
        forget();
        if (rule < 12 || rule >= rules.size() || rules.get(rule) == null) {
            return EMPTY;
        }
        rules.set(rule, null);
        return 1;
    }

    int turning(int from, int to, int what) {
        if (noSort(from) || noSort(to) || what < 0) {
            return OUTSIDE;
        }
        return told(theTurning(from, to), what);
    }

    int turn(int from, int to, long v) {
        if (noSort(from) || noSort(to)) {
            return OUTSIDE;
        }
        if (theTurning(from, to) == null) {
            return NONE;
        }
        try {
            if (!isOf(from, BigInteger.valueOf(v))) {
                throw new Failure(0, NONE);
            }
            value = turned(from, to, v, 1);
            return 0;
        } catch (Failure failure) {
            return note(failure);
        }
    }

    // ---- shapes

    int ask(int face, int name, int sorts) {
        forget();
        return outside(face) ? OUTSIDE : newPart(faces.get(face), name, sorts);
    }

    int offer(int shape, int name, int sorts) {
        return outside(shape) ? OUTSIDE : newPart(classes.get(shape), name, sorts);
    }

    int work(int shape, int member, int kind, int field, int number) {
        if (outside(shape) || kind < 0 || kind > 2 || field > 2 || field < (kind == 0 ? -1 : 0)) {
            return OUTSIDE;
        }
        if (kind == 0 && Math.abs((long) number) > 1000) {
            return OUTSIDE;
        }
        if (member < 0 || member >= classes.get(shape).size()) {
            return EMPTY;
        }
        Part part = classes.get(shape).get(member);
        part.kind = kind;
        part.field = field;
        part.number = number;
        return 0;
    }

    int times(int shape, int member, int i, int by) {
        if (outside(shape)) {
            return OUTSIDE;
        }
        if (member < 0 || member >= classes.get(shape).size()) {
            return EMPTY;
        }
        Part part = classes.get(shape).get(member);
        if (i < 0 || i >= part.sorts.size() || Math.abs((long) by) > 1000) {
            return OUTSIDE;
        }
        int was = (int) part.times[i];
        part.times[i] = by;
        return was;
    }

    int strip(boolean face, int shape) {
        forget();
        if (outside(shape)) {
            return OUTSIDE;
        }
        List<Part> parts = (face ? faces : classes).get(shape);
        int had = parts.size();
        parts.clear();
        return had;
    }

    boolean alias(int name, int other, boolean on) {
        forget();
        if (name < 0 || name > 99 || other < 0 || other > 99 || name == other) {
            return false;
        }
        String pair = name + " by " + other;
        if (!on) {
            return aliases.remove(pair);
        }
        return aliases.size() < 30 && !aliases.contains(pair) && aliases.add(pair);
    }

    int constant(int sort, boolean is, long v) {
        forget();
        if (noSort(sort) || is && !isOf(sort, BigInteger.valueOf(v))) {
            return OUTSIDE;
        }
        int was = constants[sort] == null ? 0 : 1;
        constants[sort] = is ? v : null;
        return was;
    }

    // ---- fits

    int fit(int face, int member, int shape, int what) {
        if (outside(face) || shape < 0 || shape > 19 || what < 0 || what > 5) {
            return OUTSIDE;
        }
        if (member < 0 || member >= faces.get(face).size()) {
            return EMPTY;
        }
        Fit fit = theFit(faces.get(face).get(member), parts(shape));
        if (fit == null) {
            return GAP;
        }
        if (what < 2) {
            return what == 0 ? fit.cost : fit.member;
        }
        return what - 2 < fit.takes.size() ? fit.takes.get(what - 2) : NONE;
    }

    int fits(int face, int shape) {
        if (outside(face) || shape < 0 || shape > 19) {
            return OUTSIDE;
        }
        int all = 0;
        for (Part f : faces.get(face)) {
            Fit fit = theFit(f, parts(shape));
            if (fit == null) {
                return GAP;
            }
            all += fit.cost;
        }
        return all;
    }

    int gap(int face, int shape) {
        if (outside(face) || shape < 0 || shape > 19) {
            return OUTSIDE;
        }
        for (int i = 0; i < faces.get(face).size(); i++) {
            if (theFit(faces.get(face).get(i), parts(shape)) == null) {
                return i;
            }
        }
        return NONE;
    }

    int way(int from, int to, int what) {
        if (outside(from) || outside(to) || what < 0) {
            return OUTSIDE;
        }
        return told(theWay(from, to), what);
    }

    // ---- objects

    int object(int shape) {
        if (outside(shape)) {
            return OUTSIDE;
        }
        if (objects.size() == 20) {
            return FULL;
        }
        objects.add(shape);
        return objects.size() - 1;
    }

    int put(int object, int field, long v) {
        if (noObject(object)) {
            return EMPTY;
        }
        if (field < 0 || field > 2) {
            return OUTSIDE;
        }
        fields[object][field] = v;
        return 0;
    }

    long field(int object, int field) {
        return noObject(object) || field < 0 || field > 2 ? 0 : fields[object][field];
    }

    int hand(int i, long v) {
        if (i < 0 || i > 3) {
            return OUTSIDE;
        }
        hand[i] = v;
        return 0;
    }

    int call(int object, int face, int member) {
        if (noObject(object)) {
            return EMPTY;
        }
        if (outside(face)) {
            return OUTSIDE;
        }
        return called(object, List.of(face), member);
    }

    int through(int object, int from, int to, int member) {
        if (noObject(object)) {
            return EMPTY;
        }
        if (outside(from) || outside(to)) {
            return OUTSIDE;
        }
        Row way = theWay(from, to);
        return way == null ? NONE : called(object, way.steps, member);
    }

    long value() {
        return value;
    }

    int failed(int what) {
        if (where == NONE) {
            return NONE;
        }
        return what == 0 ? where : what == 1 ? brokenRule : OUTSIDE;
    }

    int count(int what) {
        int held = 0;
        switch (what) {
            case 0: for (Rule rule : rules) { held += rule == null ? 0 : 1; } return held;
            case 1: return objects.size();
            case 2: return aliases.size();
            case 3: for (Long constant : constants) { held += constant == null ? 0 : 1; } return held;
            case 4: for (List<Part> parts : faces) { held += parts.size(); } return held;
            case 5: for (List<Part> parts : classes) { held += parts.size(); } return held;
            case 6: return done;
            case 7: return broken;
            default: return OUTSIDE;
        }
    }

    // ---- how it is found

    /** Whatever may be told is told now: nothing that was found before is kept. */
    private void forget() {
        Arrays.fill(turnings, null);
        faceCosts = null;
    }

    private static boolean noSort(int sort) {
        return sort < 0 || sort > 6;
    }

    private static boolean outside(int shape) {
        return shape < 0 || shape > 9;
    }

    private boolean noObject(int object) {
        return object < 0 || object >= objects.size();
    }

    private List<Part> parts(int shape) {
        return shape < 10 ? classes.get(shape) : faces.get(shape - 10);
    }

    private static int told(Row row, int what) {
        if (row == null) {
            return NONE;
        }
        if (what < 2) {
            return what == 0 ? row.cost : row.steps.size();
        }
        return what - 2 < row.steps.size() ? row.steps.get(what - 2) : NONE;
    }

    private static boolean isOf(int sort, BigInteger v) {
        return v.compareTo(new BigInteger(LEAST[sort])) >= 0 && v.compareTo(new BigInteger(MOST[sort])) <= 0;
    }

    private static int newPart(List<Part> parts, int name, int sorts) {
        if (name < 0 || name > 99 || sorts < 0) {
            return OUTSIDE;
        }
        Part part = new Part();
        String digits = new StringBuilder(Integer.toOctalString(sorts)).reverse().toString();
        part.name = name;
        part.result = digits.charAt(0) - '0';
        for (int i = 1; i < digits.length(); i++) {
            part.sorts.add(digits.charAt(i) - '1');
        }
        if (part.result == 7 || part.sorts.contains(-1) || part.sorts.size() > 4) {
            return OUTSIDE;
        }
        if (parts.size() == 6) {
            return FULL;
        }
        parts.add(part);
        return parts.size() - 1;
    }

    private Row theTurning(int from, int to) {
        if (turnings[from * 7 + to] == null) {
            turnings[from * 7 + to] = bestTurning(from, to, new boolean[7], new Row(0, List.of()), null);
        }
        return turnings[from * 7 + to];
    }

    private Row bestTurning(int at, int to, boolean[] been, Row soFar, Row best) {
        if (best != null && soFar.cost > best.cost) {
            return best;
        }
        if (at == to) {
            return soFar.isAheadOf(best) ? soFar : best;
        }
        Row result = best;
        been[at] = true;
        for (int i = 0; i < rules.size(); i++) {
            Rule rule = rules.get(i);
            if (rule != null && rule.from == at && !been[rule.to]) {
                result = bestTurning(rule.to, to, been, longer(soFar, rule.cost, i), result);
            }
        }
        been[at] = false;
        return result;
    }

    private static Row longer(Row row, int cost, int step) {
        List<Integer> steps = new ArrayList<>(row.steps);
        steps.add(step);
        return new Row(row.cost + cost, steps);
    }

    private Row theWay(int from, int to) {
        if (faceCosts == null) {
            faceCosts = new int[10][10];
            for (int i = 0; i < 100; i++) {
                faceCosts[i / 10][i % 10] = fits(i % 10, 10 + i / 10);
            }
        }
        return bestWay(faceCosts, from, to, new boolean[10], new Row(0, List.of(from)), null);
    }

    private static Row bestWay(int[][] costs, int at, int to, boolean[] been, Row soFar, Row best) {
        if (best != null && (soFar.cost > best.cost
                || soFar.cost == best.cost && soFar.steps.size() > best.steps.size())) {
            return best;
        }
        if (at == to) {
            return soFar.isAheadOf(best) ? soFar : best;
        }
        Row result = best;
        been[at] = true;
        for (int next = 9; next >= 0; next--) {
            if (!been[next] && costs[at][next] != GAP) {
                result = bestWay(costs, next, to, been, longer(soFar, costs[at][next], next), result);
            }
        }
        been[at] = false;
        return result;
    }

    private Fit theFit(Part f, List<Part> parts) {
        Fit best = null;
        for (int i = 0; i < parts.size(); i++) {
            Row row = bestAssignment(f, parts.get(i));
            if (row != null && (best == null || row.cost < best.cost)) {
                best = new Fit(row.cost, i, row.steps);
            }
        }
        return best;
    }

    private Row bestAssignment(Part f, Part c) {
        Row back = theTurning(c.result, f.result);
        boolean alike = f.name == c.name;
        if (back == null || !alike && !aliases.contains(f.name + " by " + c.name)) {
            return null;
        }
        Row best = null;
        int codes = (int) Math.pow(5, c.sorts.size());
        for (int code = 0; code < codes; code++) {
            Row row = assignment(f, c, code);
            if (row != null && row.isAheadOf(best)) {
                best = row;
            }
        }
        return best == null ? null : new Row(best.cost + back.cost + (alike ? 0 : 2), best.steps);
    }

    private Row assignment(Part f, Part c, int code) {
        Row row = new Row(0, List.of());
        int rest = code;
        for (int i = 0; i < c.sorts.size(); i++) {
            int place = rest % 5;
            rest /= 5;
            int sort = c.sorts.get(i);
            if (place == 4) {
                if (constants[sort] == null) {
                    return null;
                }
                row = longer(row, 7, 9);
            } else {
                if (place >= f.sorts.size() || row.steps.contains(place)) {
                    return null;
                }
                Row turning = theTurning(f.sorts.get(place), sort);
                if (turning == null) {
                    return null;
                }
                row = longer(row, turning.cost + (place == i ? 0 : 1), place);
            }
        }
        int left = 0;
        for (int place = 0; place < f.sorts.size(); place++) {
            left += row.steps.contains(place) ? 0 : 1;
        }
        return new Row(row.cost + 4 * left, row.steps);
    }

    private long turned(int from, int to, long v, int at) throws Failure {
        BigInteger now = BigInteger.valueOf(v);
        for (int i : theTurning(from, to).steps) {
            Rule rule = rules.get(i);
            if (i == 7) {
                now = BigInteger.valueOf(now.signum() == 0 ? 0 : 1);
            } else if (i == 9) {
                now = now.divide(BigInteger.TEN);
            } else {
                now = now.multiply(rule.times).add(rule.plus);
            }
            if (!isOf(rule.to, now)) {
                throw new Failure(at, i);
            }
        }
        return now.longValueExact();
    }

    private int called(int object, List<Integer> way, int member) {
        List<Part> last = faces.get(way.get(way.size() - 1));
        if (member < 0 || member >= last.size()) {
            return EMPTY;
        }
        List<List<Part>> shapes = new ArrayList<>();
        for (int i = way.size() - 2; i >= 0; i--) {
            shapes.add(faces.get(way.get(i)));
        }
        shapes.add(classes.get(objects.get(object)));
        Part f = last.get(member);
        if (leadsToGap(f, shapes, 0)) {
            return GAP;
        }
        try {
            List<Long> arguments = new ArrayList<>();
            for (int i = 0; i < f.sorts.size(); i++) {
                if (!isOf(f.sorts.get(i), BigInteger.valueOf(hand[i]))) {
                    throw new Failure(0, NONE);
                }
                arguments.add(hand[i]);
            }
            value = result(f, arguments, shapes, 0, fields[object]);
            done++;
            return 0;
        } catch (Failure failure) {
            broken++;
            return note(failure);
        }
    }

    private int note(Failure failure) {
        where = failure.where;
        brokenRule = failure.rule;
        return FAILS;
    }

    private boolean leadsToGap(Part f, List<List<Part>> shapes, int i) {
        if (i == shapes.size()) {
            return false;
        }
        Fit fit = theFit(f, shapes.get(i));
        return fit == null || leadsToGap(shapes.get(i).get(fit.member), shapes, i + 1);
    }

    private long result(Part f, List<Long> given, List<List<Part>> shapes, int i, long[] own) throws Failure {
        if (i == shapes.size()) {
            return worked(f, given, own);
        }
        Fit fit = theFit(f, shapes.get(i));
        Part c = shapes.get(i).get(fit.member);
        List<Long> taken = new ArrayList<>();
        for (int k = 0; k < c.sorts.size(); k++) {
            int place = fit.takes.get(k);
            int sort = c.sorts.get(k);
            taken.add(place == 9 ? constants[sort] : turned(f.sorts.get(place), sort, given.get(place), 1));
        }
        return turned(c.result, f.result, result(c, taken, shapes, i + 1, own), 3);
    }

    private static long worked(Part c, List<Long> given, long[] own) throws Failure {
        BigInteger sum = c.kind == 0 ? BigInteger.valueOf(c.number) : BigInteger.ZERO;
        for (int i = 0; i < given.size() && c.kind != 1; i++) {
            BigInteger times = BigInteger.valueOf(c.kind == 0 ? c.times[i] : 1);
            BigInteger product = fine(3, BigInteger.valueOf(given.get(i)).multiply(times));
            sum = fine(3, sum.add(product));
        }
        if (c.kind == 0 && c.field != NONE) {
            sum = fine(3, sum.add(BigInteger.valueOf(own[c.field])));
        }
        BigInteger given0 = fine(c.result, c.kind == 0 ? sum : BigInteger.valueOf(own[c.field]));
        if (c.kind == 2) {
            own[c.field] = sum.longValueExact();
        }
        return given0.longValueExact();
    }

    private static BigInteger fine(int sort, BigInteger v) throws Failure {
        if (!isOf(sort, v)) {
            throw new Failure(2, NONE);
        }
        return v;
    }
}
