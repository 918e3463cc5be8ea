import java.util.Arrays;

/**
 * A bench where strangers' instruments are made to fit. The words in capitals are those of the
 * document (shared/DOC.md), which says what each call promises; the comments here only say why the
 * code is as it is.
 */
public final class AdapterBench {
    public static final int NONE = -1, EMPTY = -2, OUTSIDE = -3, FULL = -5, GAP = -6, FAILS = -7;

    private static final int SORTS = 7;
    private static final int NAMES = 100;
    private static final int FACES = 10;
    private static final int CLASSES = 10;
    private static final int SHAPES = CLASSES + FACES;
    private static final int MEMBERS = 6;
    private static final int ARGUMENTS = 4;
    private static final int FIELDS = 3;
    private static final int OBJECTS = 20;

    private static final int FORMULA = 0;
    private static final int READ = 1;
    private static final int WRITE = 2;

    private static final int AT_SORT = 0;
    private static final int AT_RULE_IN = 1;
    private static final int AT_WORK = 2;
    private static final int AT_RULE_BACK = 3;

    /** Stands for "can't be reached"; above every COST, and twice it is still an int. */
    private static final int FAR = 1 << 28;
    /** The place that fit() tells for an ARGUMENT that gets the CONSTANT. */
    private static final int BY_CONSTANT = 9;
    /** The widest number that a told RULE or a WORK may multiply by or add. */
    private static final int WIDEST = 1000;

    private final Rules rules = new Rules();
    private final Aliases aliases = new Aliases();
    private final Constants constants = new Constants();
    private final Fitter fitter = new Fitter(rules, aliases, constants);
    private final Shape[] shapes = new Shape[SHAPES];
    private final Ways ways = new Ways(fitter, shapes);
    private final Things things = new Things();
    private final Latest latest = new Latest();
    private final Caller caller = new Caller(rules, constants, fitter, latest);

    public AdapterBench() {
        for (int i = 0; i < SHAPES; i++) {
            shapes[i] = new Shape();
        }
    }

    // ---- rules

    public int rule(int from, int to, int cost, int numbers) {
        if (!isSort(from) || !isSort(to) || from == to || !isWithin(cost, 1, 50)) {
            return OUTSIDE;
        }
        if (numbers < 0 || numbers / 10000 > 2 * WIDEST || numbers % 10000 > 2 * WIDEST) {
            return OUTSIDE;
        }
        if (!rules.hasRoom()) {
            return FULL;
        }
        ways.forgetAll();
        return rules.tell(from, to, cost, numbers / 10000 - WIDEST, numbers % 10000 - WIDEST);
    }

    public int drop(int rule) {
        if (!rules.canForget(rule)) {
            return EMPTY;
        }
        rules.forget(rule);
        ways.forgetAll();
        return 1;
    }

    public int turning(int from, int to, int what) {
        if (!isSort(from) || !isSort(to) || what < 0) {
            return OUTSIDE;
        }
        int cost = rules.costBetween(from, to);
        if (what == 0 || cost == NONE) {
            return cost;
        }
        return what == 1 ? rules.stepsBetween(from, to) : rules.stepAt(from, to, what - 2);
    }

    public int turn(int from, int to, long v) {
        if (!isSort(from) || !isSort(to)) {
            return OUTSIDE;
        }
        if (rules.costBetween(from, to) == NONE) {
            return NONE;
        }
        if (!isOf(from, v)) {
            latest.noteFailure(AT_SORT, NONE);
            return FAILS;
        }
        if (!rules.carry(from, to, v)) {
            latest.noteFailure(AT_RULE_IN, rules.broken);
            return FAILS;
        }
        latest.made = rules.made;
        return 0;
    }

    // ---- shapes

    public int ask(int face, int name, int sorts) {
        if (!isWithin(face, 0, FACES - 1) || !isName(name) || !areSorts(sorts)) {
            return OUTSIDE;
        }
        Shape shape = shapes[CLASSES + face];
        if (shape.size >= MEMBERS) {
            return FULL;
        }
        ways.forgetFace(face);
        return shape.add(name, sorts);
    }

    public int offer(int shape, int name, int sorts) {
        if (!isWithin(shape, 0, CLASSES - 1) || !isName(name) || !areSorts(sorts)) {
            return OUTSIDE;
        }
        return shapes[shape].size >= MEMBERS ? FULL : shapes[shape].add(name, sorts);
    }

    public int work(int shape, int member, int kind, int field, int number) {
        if (!isWithin(shape, 0, CLASSES - 1) || !isWithin(kind, FORMULA, WRITE)) {
            return OUTSIDE;
        }
        boolean fieldless = kind == FORMULA && field == NONE;
        if (!fieldless && !isWithin(field, 0, FIELDS - 1)) {
            return OUTSIDE;
        }
        if (kind == FORMULA && !isWithin(number, -WIDEST, WIDEST)) {
            return OUTSIDE;
        }
        if (!shapes[shape].has(member)) {
            return EMPTY;
        }
        shapes[shape].members[member].setWork(kind, field, number);
        return 0;
    }

    public int times(int shape, int member, int i, int by) {
        if (!isWithin(shape, 0, CLASSES - 1)) {
            return OUTSIDE;
        }
        if (!shapes[shape].has(member)) {
            return EMPTY;
        }
        Member served = shapes[shape].members[member];
        if (!isWithin(i, 0, served.arity - 1) || !isWithin(by, -WIDEST, WIDEST)) {
            return OUTSIDE;
        }
        int was = served.factors[i];
        served.factors[i] = by;
        return was;
    }

    public int strip(boolean face, int shape) {
        if (!isWithin(shape, 0, (face ? FACES : CLASSES) - 1)) {
            return OUTSIDE;
        }
        if (face) {
            ways.forgetFace(shape);
        }
        Shape stripped = shapes[face ? CLASSES + shape : shape];
        int had = stripped.size;
        stripped.size = 0;
        return had;
    }

    public boolean alias(int name, int other, boolean on) {
        if (!isName(name) || !isName(other) || name == other) {
            return false;
        }
        boolean isNew = on ? aliases.add(name, other) : aliases.remove(name, other);
        if (isNew) {
            ways.forgetAll();
        }
        return isNew;
    }

    public int constant(int sort, boolean is, long v) {
        if (!isSort(sort) || is && !isOf(sort, v)) {
            return OUTSIDE;
        }
        int was = constants.there[sort] ? 1 : 0;
        constants.there[sort] = is;
        constants.values[sort] = v;
        ways.forgetAll();
        return was;
    }

    // ---- fits

    public int fit(int face, int member, int shape, int what) {
        if (!areFaceAndShape(face, shape) || !isWithin(what, 0, 1 + ARGUMENTS)) {
            return OUTSIDE;
        }
        Shape asking = shapes[CLASSES + face];
        if (!asking.has(member)) {
            return EMPTY;
        }
        if (!fitter.find(asking.members[member], shapes[shape])) {
            return GAP;
        }
        if (what == 0) {
            return fitter.cost;
        }
        if (what == 1) {
            return fitter.server;
        }
        int argument = what - 2;
        return argument < shapes[shape].members[fitter.server].arity ? fitter.places[argument] : NONE;
    }

    public int fits(int face, int shape) {
        if (!areFaceAndShape(face, shape)) {
            return OUTSIDE;
        }
        return fitter.costOfAll(shapes[CLASSES + face], shapes[shape]);
    }

    public int gap(int face, int shape) {
        if (!areFaceAndShape(face, shape)) {
            return OUTSIDE;
        }
        return fitter.firstGap(shapes[CLASSES + face], shapes[shape]);
    }

    public int way(int from, int to, int what) {
        if (!areFaces(from, to) || what < 0) {
            return OUTSIDE;
        }
        if (!ways.find(from, to)) {
            return NONE;
        }
        if (what == 0) {
            return ways.cost;
        }
        if (what == 1) {
            return ways.length;
        }
        return what - 2 < ways.length ? ways.faces[what - 2] : NONE;
    }

    // ---- objects

    public int object(int shape) {
        if (!isWithin(shape, 0, CLASSES - 1)) {
            return OUTSIDE;
        }
        return things.size >= OBJECTS ? FULL : things.add(shape);
    }

    public int put(int object, int field, long v) {
        if (!things.has(object)) {
            return EMPTY;
        }
        if (!isWithin(field, 0, FIELDS - 1)) {
            return OUTSIDE;
        }
        things.fields[object * FIELDS + field] = v;
        return 0;
    }

    public long field(int object, int field) {
        if (!things.has(object) || !isWithin(field, 0, FIELDS - 1)) {
            return 0;
        }
        return things.fields[object * FIELDS + field];
    }

    public int hand(int i, long v) {
        if (!isWithin(i, 0, ARGUMENTS - 1)) {
            return OUTSIDE;
        }
        caller.inHand[i] = v;
        return 0;
    }

    public int call(int object, int face, int member) {
        if (!things.has(object)) {
            return EMPTY;
        }
        if (!isWithin(face, 0, FACES - 1)) {
            return OUTSIDE;
        }
        if (!shapes[CLASSES + face].has(member)) {
            return EMPTY;
        }
        caller.begin(shapes[CLASSES + face].members[member]);
        return finish(object);
    }

    public int through(int object, int from, int to, int member) {
        if (!things.has(object)) {
            return EMPTY;
        }
        if (!areFaces(from, to)) {
            return OUTSIDE;
        }
        if (!ways.find(from, to)) {
            return NONE;
        }
        if (!shapes[CLASSES + to].has(member)) {
            return EMPTY;
        }
        caller.begin(shapes[CLASSES + to].members[member]);
        for (int i = ways.length - 2; i >= 0; i--) {
            if (!caller.link(shapes[CLASSES + ways.faces[i]])) {
                return GAP;
            }
        }
        return finish(object);
    }

    public long value() {
        return latest.made;
    }

    public int failed(int what) {
        // The document tells NONE ahead of OUTSIDE here.
        if (latest.where == NONE) {
            return NONE;
        }
        if (!isWithin(what, 0, 1)) {
            return OUTSIDE;
        }
        return what == 0 ? latest.where : latest.rule;
    }

    public int count(int what) {
        switch (what) {
            case 0:
                return rules.held;
            case 1:
                return things.size;
            case 2:
                return aliases.size;
            case 3:
                return constants.held();
            case 4:
                return membersOf(CLASSES, SHAPES);
            case 5:
                return membersOf(0, CLASSES);
            case 6:
                return latest.callsDone;
            case 7:
                return latest.callsFailed;
            default:
                return OUTSIDE;
        }
    }

    // ---- what the calls above share

    private int finish(int object) {
        if (!caller.link(shapes[things.classes[object]])) {
            return GAP;
        }
        return caller.perform(things.fields, object * FIELDS) ? 0 : FAILS;
    }

    private int membersOf(int first, int end) {
        int all = 0;
        for (int i = first; i < end; i++) {
            all += shapes[i].size;
        }
        return all;
    }

    private static boolean isWithin(int number, int least, int most) {
        return number >= least && number <= most;
    }

    private static boolean isSort(int sort) {
        return isWithin(sort, 0, SORTS - 1);
    }

    private static boolean isName(int name) {
        return isWithin(name, 0, NAMES - 1);
    }

    private static boolean areFaces(int one, int other) {
        return isWithin(one, 0, FACES - 1) && isWithin(other, 0, FACES - 1);
    }

    private static boolean areFaceAndShape(int face, int shape) {
        return isWithin(face, 0, FACES - 1) && isWithin(shape, 0, SHAPES - 1);
    }

    private static boolean areSorts(int sorts) {
        if (sorts < 0 || (sorts & 7) >= SORTS) {
            return false;
        }
        int rest = sorts >> 3;
        for (int i = 0; i < ARGUMENTS && (rest & 7) != 0; i++) {
            rest >>= 3;
        }
        // What is left is a digit behind a 0, or a fifth ARGUMENT.
        return rest == 0;
    }

    private static boolean isOf(int sort, long v) {
        switch (sort) {
            case 0:
                return v >= -128 && v <= 127;
            case 1:
                return v >= -32768 && v <= 32767;
            case 2:
                return v >= -2147483648L && v <= 2147483647L;
            case 4:
                return v == 0 || v == 1;
            case 6:
                return v >= 0 && v <= 127;
            default:
                return true;
        }
    }

    /** Whether v * by + more is of 64 bits, for factors and addends of at most WIDEST. */
    private static boolean staysIn64(long v, int by, int more) {
        // Split at bit 20, so that neither part can leave 64 bits when it is multiplied.
        long low = (v & 0xFFFFF) * by + more;
        long high = (v >> 20) * by + (low >> 20);
        return high >= -(1L << 43) && high < 1L << 43;
    }

    private static boolean sumStaysIn64(long a, long b) {
        long sum = a + b;
        return ((a ^ sum) & (b ^ sum)) >= 0;
    }

    /** The RULES that there are, and THE TURNING between each two sorts. */
    private static final class Rules {
        private static final int BUILT_IN = 12;
        private static final int MOST = 32;
        private static final int TO_TRUTH = 7;
        private static final int TO_WHOLE = 9;
        private static final int[] FROM = {0, 1, 2, 3, 2, 1, 4, 2, 3, 5, 6, 1};
        private static final int[] TO = {1, 2, 3, 2, 1, 0, 0, 4, 5, 3, 1, 6};
        private static final int[] COST = {1, 1, 1, 5, 5, 5, 2, 6, 3, 6, 2, 5};
        private static final int[] BY = {1, 1, 1, 1, 1, 1, 1, 1, 10, 1, 1, 1};

        private final int[] from = new int[MOST];
        private final int[] to = new int[MOST];
        private final int[] cost = new int[MOST];
        private final int[] by = new int[MOST];
        private final int[] more = new int[MOST];
        private final boolean[] there = new boolean[MOST];
        private int told = 0;
        int held = 0;

        /** 8 * COST + number of RULES: no best row has 8 RULES, so this compares both at once. */
        private final int[] weight = new int[SORTS * SORTS];
        private final int[] first = new int[SORTS * SORTS];

        /** What the latest carry() that went well made, and the RULE at which the latest other broke. */
        long made = 0;
        int broken = NONE;

        Rules() {
            for (int i = 0; i < BUILT_IN; i++) {
                keep(FROM[i], TO[i], COST[i], BY[i], 0);
            }
            measure();
        }

        boolean hasRoom() {
            return told < MOST;
        }

        int tell(int source, int target, int price, int factor, int addend) {
            keep(source, target, price, factor, addend);
            measure();
            return told - 1;
        }

        boolean canForget(int rule) {
            return isWithin(rule, BUILT_IN, told - 1) && there[rule];
        }

        void forget(int rule) {
            there[rule] = false;
            held--;
            measure();
        }

        int costBetween(int source, int target) {
            int whole = weight[source * SORTS + target];
            return whole >= FAR ? NONE : whole / 8;
        }

        int stepsBetween(int source, int target) {
            return weight[source * SORTS + target] % 8;
        }

        int stepAt(int source, int target, int step) {
            int at = source;
            for (int i = 0; i < SORTS && at != target; i++) {
                int rule = first[at * SORTS + target];
                if (rule == NONE || i == step) {
                    return rule;
                }
                at = to[rule];
            }
            return NONE;
        }

        /** Turns v by THE TURNING; made or broken tells how it went. */
        boolean carry(int source, int target, long v) {
            made = v;
            int at = source;
            for (int i = 0; i < SORTS && at != target; i++) {
                int rule = first[at * SORTS + target];
                broken = rule;
                if (rule == NONE || !follow(rule, made)) {
                    return false;
                }
                at = to[rule];
            }
            return true;
        }

        private boolean follow(int rule, long v) {
            if (rule == TO_TRUTH) {
                made = v == 0 ? 0 : 1;
            } else if (rule == TO_WHOLE) {
                made = v / 10;
            } else if (staysIn64(v, by[rule], more[rule])) {
                made = v * by[rule] + more[rule];
            } else {
                return false;
            }
            return isOf(to[rule], made);
        }

        private void keep(int source, int target, int price, int factor, int addend) {
            from[told] = source;
            to[told] = target;
            cost[told] = price;
            by[told] = factor;
            more[told] = addend;
            there[told] = true;
            told++;
            held++;
        }

        private void measure() {
            Arrays.fill(weight, FAR);
            for (int sort = 0; sort < SORTS; sort++) {
                weight[sort * SORTS + sort] = 0;
            }
            for (int rule = 0; rule < told; rule++) {
                if (there[rule]) {
                    int pair = from[rule] * SORTS + to[rule];
                    weight[pair] = Math.min(weight[pair], weightOf(rule));
                }
            }
            for (int middle = 0; middle < SORTS; middle++) {
                shortenBy(middle);
            }
            for (int pair = 0; pair < SORTS * SORTS; pair++) {
                first[pair] = firstOf(pair / SORTS, pair % SORTS);
            }
        }

        private int weightOf(int rule) {
            return 8 * cost[rule] + 1;
        }

        private void shortenBy(int middle) {
            for (int pair = 0; pair < SORTS * SORTS; pair++) {
                int lead = weight[pair / SORTS * SORTS + middle];
                int tail = weight[middle * SORTS + pair % SORTS];
                weight[pair] = Math.min(weight[pair], lead + tail);
            }
        }

        /** What follows the first RULE is THE TURNING from there, so the first ones are enough. */
        private int firstOf(int source, int target) {
            int whole = weight[source * SORTS + target];
            for (int rule = 0; rule < told && whole < FAR; rule++) {
                if (there[rule] && from[rule] == source
                        && weightOf(rule) + weight[to[rule] * SORTS + target] == whole) {
                    return rule;
                }
            }
            return NONE;
        }
    }

    /** A MEMBER; that of a FACE has a WORK too, which nobody looks at. */
    private static final class Member {
        int name = 0;
        int result = 0;
        int arity = 0;
        final int[] sorts = new int[ARGUMENTS];
        int kind = FORMULA;
        int part = NONE;
        int number = 0;
        final int[] factors = new int[ARGUMENTS];

        void become(int newName, int digits) {
            name = newName;
            result = digits & 7;
            arity = 0;
            int rest = digits >> 3;
            for (int i = 0; i < ARGUMENTS && rest != 0; i++) {
                sorts[i] = (rest & 7) - 1;
                rest >>= 3;
                arity++;
            }
            setWork(FORMULA, NONE, 0);
            Arrays.fill(factors, 1);
        }

        void setWork(int newKind, int newPart, int newNumber) {
            kind = newKind;
            part = newPart;
            number = newNumber;
        }
    }

    /** A FACE or a CLASS. Its MEMBERS are made once and used again, since what is made is counted. */
    private static final class Shape {
        final Member[] members = new Member[MEMBERS];
        int size = 0;

        Shape() {
            for (int i = 0; i < MEMBERS; i++) {
                members[i] = new Member();
            }
        }

        boolean has(int member) {
            return isWithin(member, 0, size - 1);
        }

        int add(int name, int digits) {
            members[size].become(name, digits);
            size++;
            return size - 1;
        }
    }

    /** Which NAME of FACES is met by which other one. */
    private static final class Aliases {
        private static final int MOST = 30;
        private final int[] pairs = new int[MOST];
        int size = 0;

        boolean has(int name, int other) {
            return placeOf(name, other) != NONE;
        }

        boolean add(int name, int other) {
            if (size >= MOST || has(name, other)) {
                return false;
            }
            pairs[size] = name * NAMES + other;
            size++;
            return true;
        }

        boolean remove(int name, int other) {
            int place = placeOf(name, other);
            if (place == NONE) {
                return false;
            }
            size--;
            pairs[place] = pairs[size];
            return true;
        }

        private int placeOf(int name, int other) {
            for (int i = 0; i < size; i++) {
                if (pairs[i] == name * NAMES + other) {
                    return i;
                }
            }
            return NONE;
        }
    }

    private static final class Constants {
        final boolean[] there = new boolean[SORTS];
        final long[] values = new long[SORTS];

        int held() {
            int all = 0;
            for (boolean is : there) {
                all += is ? 1 : 0;
            }
            return all;
        }
    }

    /** Finds THE FIT; what it found stays here until it is asked again. */
    private static final class Fitter {
        private static final int OTHER_NAME = 2;
        private static final int OTHER_PLACE = 1;
        private static final int CONSTANT_TAKEN = 7;
        private static final int LEFT_OVER = 4;

        private final Rules rules;
        private final Aliases aliases;
        private final Constants constants;
        private final int[] trial = new int[ARGUMENTS];

        int cost = FAR;
        int server = NONE;
        final int[] places = new int[ARGUMENTS];

        Fitter(Rules rules, Aliases aliases, Constants constants) {
            this.rules = rules;
            this.aliases = aliases;
            this.constants = constants;
        }

        boolean find(Member f, Shape shape) {
            cost = FAR;
            server = NONE;
            for (int i = 0; i < shape.size; i++) {
                Member c = shape.members[i];
                int start = startOf(f, c);
                if (start != NONE && assign(f, c, 0, 0, start)) {
                    server = i;
                }
            }
            return server != NONE;
        }

        int costOfAll(Shape face, Shape shape) {
            int all = 0;
            for (int i = 0; i < face.size; i++) {
                if (!find(face.members[i], shape)) {
                    return GAP;
                }
                all += cost;
            }
            return all;
        }

        int firstGap(Shape face, Shape shape) {
            for (int i = 0; i < face.size; i++) {
                if (!find(face.members[i], shape)) {
                    return i;
                }
            }
            return NONE;
        }

        /** What c costs whatever its ARGUMENTS take; NONE: it can't serve f. */
        private int startOf(Member f, Member c) {
            boolean alike = f.name == c.name;
            if (!alike && !aliases.has(f.name, c.name)) {
                return NONE;
            }
            int back = rules.costBetween(c.result, f.result);
            return back == NONE || alike ? back : back + OTHER_NAME;
        }

        /**
         * Tries all that ARGUMENT i of c and those behind it can take, in the document's order, so that
         * of equal ones the first stays; taken has a bit for each place of f that is used up.
         */
        private boolean assign(Member f, Member c, int i, int taken, int soFar) {
            // No part of a COST is below 0, so what is not cheaper now will never be.
            if (soFar >= cost) {
                return false;
            }
            if (i >= c.arity) {
                return settle(soFar + LEFT_OVER * (f.arity - Integer.bitCount(taken)));
            }
            boolean better = false;
            for (int place = 0; place < f.arity; place++) {
                if ((taken >> place & 1) == 0 && take(f, c, i, place, taken, soFar)) {
                    better = true;
                }
            }
            if (constants.there[c.sorts[i]]) {
                trial[i] = BY_CONSTANT;
                better = assign(f, c, i + 1, taken, soFar + CONSTANT_TAKEN) || better;
            }
            return better;
        }

        private boolean take(Member f, Member c, int i, int place, int taken, int soFar) {
            int turned = rules.costBetween(f.sorts[place], c.sorts[i]);
            if (turned == NONE) {
                return false;
            }
            trial[i] = place;
            int moved = place == i ? 0 : OTHER_PLACE;
            return assign(f, c, i + 1, taken | 1 << place, soFar + turned + moved);
        }

        private boolean settle(int all) {
            if (all >= cost) {
                return false;
            }
            cost = all;
            System.arraycopy(trial, 0, places, 0, ARGUMENTS);
            return true;
        }
    }

    /** Finds THE WAY; which FACE FITS which at what COST is kept until something told may change it. */
    private static final class Ways {
        private static final int UNKNOWN = -1;

        private final Fitter fitter;
        private final Shape[] shapes;
        /** 16 * COST + 1 for each FACE more: no best WAY has 16 FACES, so this compares both at once. */
        private final int[] weight = new int[FACES * FACES];
        private final int[] left = new int[FACES];

        int cost = 0;
        int length = 0;
        final int[] faces = new int[FACES];

        Ways(Fitter fitter, Shape[] shapes) {
            this.fitter = fitter;
            this.shapes = shapes;
            forgetAll();
        }

        void forgetAll() {
            Arrays.fill(weight, UNKNOWN);
        }

        void forgetFace(int face) {
            for (int i = 0; i < FACES; i++) {
                weight[face * FACES + i] = UNKNOWN;
                weight[i * FACES + face] = UNKNOWN;
            }
        }

        boolean find(int from, int to) {
            weigh();
            measure(to);
            length = 0;
            if (left[from] >= FAR) {
                return false;
            }
            cost = left[from] / 16;
            int at = from;
            for (int i = 0; i < FACES && at != NONE; i++) {
                faces[i] = at;
                length++;
                at = at == to ? NONE : nextOf(at);
            }
            return true;
        }

        private void weigh() {
            for (int pair = 0; pair < FACES * FACES; pair++) {
                if (weight[pair] == UNKNOWN) {
                    Shape face = shapes[CLASSES + pair / FACES];
                    Shape next = shapes[CLASSES + pair % FACES];
                    int whole = pair / FACES == pair % FACES ? GAP : fitter.costOfAll(next, face);
                    weight[pair] = whole == GAP ? FAR : 16 * whole + 1;
                }
            }
        }

        private void measure(int to) {
            Arrays.fill(left, FAR);
            left[to] = 0;
            boolean changed = true;
            for (int round = 0; round < FACES && changed; round++) {
                changed = false;
                for (int face = 0; face < FACES; face++) {
                    changed = shorten(face) || changed;
                }
            }
        }

        private boolean shorten(int face) {
            int was = left[face];
            for (int next = 0; next < FACES; next++) {
                left[face] = Math.min(left[face], weight[face * FACES + next] + left[next]);
            }
            return left[face] < was;
        }

        /** What follows the next FACE is THE WAY from there, so the least that keeps the COST is it. */
        private int nextOf(int face) {
            for (int next = 0; next < FACES; next++) {
                if (weight[face * FACES + next] + left[next] == left[face]) {
                    return next;
                }
            }
            return NONE;
        }
    }

    /** The OBJECTS and their FIELDS. */
    private static final class Things {
        final int[] classes = new int[OBJECTS];
        final long[] fields = new long[OBJECTS * FIELDS];
        int size = 0;

        boolean has(int object) {
            return isWithin(object, 0, size - 1);
        }

        int add(int shape) {
            classes[size] = shape;
            size++;
            return size - 1;
        }
    }

    /** What is told of the latest calls, long after them. */
    private static final class Latest {
        long made = 0;
        int where = NONE;
        int rule = NONE;
        int callsDone = 0;
        int callsFailed = 0;

        void noteFailure(int newWhere, int newRule) {
            where = newWhere;
            rule = newRule;
        }
    }

    /**
     * Does a CALL along a chain of MEMBERS, each serving the one ahead of it. The chain stands before
     * a value is turned, since a GAP at its end is told ahead of all that FAILS.
     */
    private static final class Caller {
        private final Rules rules;
        private final Constants constants;
        private final Fitter fitter;
        private final Latest latest;

        final long[] inHand = new long[ARGUMENTS];
        private final Member[] chain = new Member[FACES + 1];
        private final int[] places = new int[FACES * ARGUMENTS];
        private int links = 0;
        private long[] arguments = new long[ARGUMENTS];
        private long[] turned = new long[ARGUMENTS];
        private long result = 0;

        Caller(Rules rules, Constants constants, Fitter fitter, Latest latest) {
            this.rules = rules;
            this.constants = constants;
            this.fitter = fitter;
            this.latest = latest;
            Member nobody = new Member();
            for (int i = 0; i <= FACES; i++) {
                chain[i] = nobody;
            }
        }

        void begin(Member f) {
            chain[0] = f;
            links = 0;
        }

        boolean link(Shape shape) {
            if (links >= FACES || !fitter.find(chain[links], shape)) {
                return false;
            }
            System.arraycopy(fitter.places, 0, places, links * ARGUMENTS, ARGUMENTS);
            links++;
            chain[links] = shape.members[fitter.server];
            return true;
        }

        boolean perform(long[] fields, int base) {
            boolean done = takeHand() && passIn() && doWork(fields, base) && passBack();
            if (done) {
                latest.made = result;
                latest.callsDone++;
            } else {
                latest.callsFailed++;
            }
            return done;
        }

        private boolean takeHand() {
            Member f = chain[0];
            for (int i = 0; i < f.arity; i++) {
                if (!isOf(f.sorts[i], inHand[i])) {
                    latest.noteFailure(AT_SORT, NONE);
                    return false;
                }
                arguments[i] = inHand[i];
            }
            return true;
        }

        private boolean passIn() {
            for (int i = 0; i < links; i++) {
                if (!passTo(i)) {
                    latest.noteFailure(AT_RULE_IN, rules.broken);
                    return false;
                }
                long[] old = arguments;
                arguments = turned;
                turned = old;
            }
            return true;
        }

        private boolean passTo(int link) {
            Member f = chain[link];
            Member c = chain[link + 1];
            for (int i = 0; i < c.arity; i++) {
                int place = places[link * ARGUMENTS + i];
                if (place == BY_CONSTANT) {
                    turned[i] = constants.values[c.sorts[i]];
                } else if (rules.carry(f.sorts[place], c.sorts[i], arguments[place])) {
                    turned[i] = rules.made;
                } else {
                    return false;
                }
            }
            return true;
        }

        private boolean doWork(long[] fields, int base) {
            Member c = chain[links];
            boolean done;
            switch (c.kind) {
                case READ:
                    done = giveIfOf(c, fields[base + c.part]);
                    break;
                case WRITE:
                    done = writeField(c, fields, base + c.part);
                    break;
                default:
                    done = addUp(c) && addField(c, fields, base) && giveIfOf(c, result);
                    break;
            }
            if (!done) {
                latest.noteFailure(AT_WORK, NONE);
            }
            return done;
        }

        private boolean giveIfOf(Member c, long v) {
            result = v;
            return isOf(c.result, v);
        }

        private boolean addUp(Member c) {
            result = c.number;
            for (int i = 0; i < c.arity; i++) {
                if (!staysIn64(arguments[i], c.factors[i], 0) || !addTo(arguments[i] * c.factors[i])) {
                    return false;
                }
            }
            return true;
        }

        private boolean addField(Member c, long[] fields, int base) {
            return c.part == NONE || addTo(fields[base + c.part]);
        }

        private boolean addTo(long more) {
            boolean stays = sumStaysIn64(result, more);
            result += more;
            return stays;
        }

        private boolean writeField(Member c, long[] fields, int at) {
            result = 0;
            for (int i = 0; i < c.arity; i++) {
                if (!addTo(arguments[i])) {
                    return false;
                }
            }
            long sum = result;
            if (!giveIfOf(c, fields[at])) {
                return false;
            }
            fields[at] = sum;
            return true;
        }

        private boolean passBack() {
            for (int i = links; i > 0; i--) {
                if (!rules.carry(chain[i].result, chain[i - 1].result, result)) {
                    latest.noteFailure(AT_RULE_BACK, rules.broken);
                    return false;
                }
                result = rules.made;
            }
            return true;
        }
    }
}
