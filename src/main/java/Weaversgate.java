import java.util.NoSuchElementException;

/**
 * An object language whose classes are woven: bodies of steps call, make, read, write, throw and
 * handle; patterns catch points; advice acts ahead of points, behind them and around them.
 */
public final class Weaversgate {
    private static final int CLASSES = 6;
    private static final int METHODS = 6;
    private static final int STEPS = 8;
    private static final int FIELDS = 4;
    private static final int EXCEPTIONS = 4;
    private static final int NO_BODY = 4;
    private static final int PATTERNS = 24;
    private static final int ADVICES = 12;
    private static final int ASPECTS = 4;
    private static final int TIMES = 2;
    private static final int NUMBER = 99;
    private static final int POINTS = 120;
    private static final int GOING_ON = 20;
    private static final int ACTS = 400;
    // The first object is made without a point, each other one just ahead of a point of its own.
    private static final int OBJECTS = POINTS + 1;
    // Some forty turns at most lie between two acts, so that no point comes near this.
    private static final int TURNS = 1000000;

    private static final String STEP_KINDS = "ncmgsth";
    private static final String PATTERN_KINDS = "ceghsmntwvf&|!";
    private static final String ADVICE_KINDS = "baxfr";

    private static final char RESULT = 'r';
    private static final char THROWN = 'x';
    private static final char GIVEN_UP = 'l';
    private static final char INWARD = 'i';
    private static final char YES = 'y';
    private static final char NO = 'n';
    private static final char MAYBE = 'm';

    private final Classes classes = new Classes();
    private final Patterns patterns = new Patterns();
    private final Advices advices = new Advices();
    private final Order order = new Order();
    private final Weaver weaver = new Weaver(classes, patterns, advices);
    private final Course last = new Course();
    private final Machine machine = new Machine(classes, patterns, advices, order, weaver, last);
    // isSound runs twice and leaves the last run as it is, so it has two courses of its own.
    private final Course wovenTrial = new Course();
    private final Course askingTrial = new Course();

    public Weaversgate() {
    }

    // ---- Classes

    public int addClass(int parent) throws IndexOutOfBoundsException, IllegalStateException {
        if (parent != -1) {
            checkClass(parent);
        }
        if (classes.count >= CLASSES) {
            throw new IllegalStateException("there are 6 classes");
        }
        return classes.add(parent);
    }

    public int addStep(int type, int method, char step, int a, int b)
            throws IndexOutOfBoundsException, IllegalArgumentException, IllegalStateException {
        checkClass(type);
        checkMethod(method);
        if (!isStep(step, a, b)) {
            throw new IllegalArgumentException("no such step, or a number out of range");
        }
        Body body = classes.bodyOf(type, method);
        if (body.count >= STEPS) {
            throw new IllegalStateException("there are 8 steps");
        }
        body.add(step, a, b);
        return body.count;
    }

    public int dropBody(int type, int method) throws IndexOutOfBoundsException, IllegalArgumentException {
        checkClass(type);
        checkMethod(method);
        Body body = classes.bodyOf(type, method);
        int had = body.count;
        body.count = 0;
        return had;
    }

    public int finds(int type, int method) throws IndexOutOfBoundsException, IllegalArgumentException {
        checkClass(type);
        checkMethod(method);
        return classes.holderOf(type, method);
    }

    // ---- Patterns and advice

    public int addPattern(char kind, int a, int b)
            throws IllegalArgumentException, NoSuchElementException, IllegalStateException {
        if (PATTERN_KINDS.indexOf(kind) < 0 || !isPatternNumber(kind, a)) {
            throw new IllegalArgumentException("no such kind, or a number out of range");
        }
        if (Patterns.isOfOne(kind)) {
            checkPattern(a);
        }
        if (Patterns.isOfTwo(kind)) {
            checkPattern(a);
            checkPattern(b);
        }
        if (patterns.count >= PATTERNS) {
            throw new IllegalStateException("there are 24 patterns");
        }
        return patterns.add(kind, a, b);
    }

    public int addAdvice(int aspect, char kind, int pattern, int more, int times)
            throws IllegalArgumentException, NoSuchElementException, IllegalStateException {
        checkAspect(aspect);
        checkAdviceKind(kind);
        if (!isWithin(more, -NUMBER, NUMBER) || !isWithin(times, 0, TIMES)) {
            throw new IllegalArgumentException("a number out of range");
        }
        checkPattern(pattern);
        if (advices.count >= ADVICES) {
            throw new IllegalStateException("there are 12 advices");
        }
        return advices.add(aspect, kind, pattern, more, times);
    }

    public boolean turn(int advice, boolean isOn) throws NoSuchElementException {
        checkAdvice(advice);
        boolean was = advices.on[advice];
        advices.on[advice] = isOn;
        return was;
    }

    public boolean precede(int first, int second, boolean isAhead) throws IllegalArgumentException {
        checkAspect(first);
        checkAspect(second);
        if (first == second) {
            throw new IllegalArgumentException("both aspects are the same");
        }
        return order.tell(first, second, isAhead);
    }

    public boolean isRing() {
        return order.hasRing;
    }

    public int aspectAt(int rank) throws IllegalArgumentException, IllegalStateException {
        checkAspect(rank);
        checkOrder();
        return order.ranks[rank];
    }

    // ---- Weaving

    public int places(int type, int method) throws IndexOutOfBoundsException, IllegalArgumentException {
        checkClass(type);
        checkMethod(method);
        return classes.bodyOf(type, method).countPlaces();
    }

    public char match(int type, int method, int place, int advice)
            throws IndexOutOfBoundsException, IllegalArgumentException, NoSuchElementException {
        checkClass(type);
        checkMethod(method);
        if (!isWithin(place, 0, classes.bodyOf(type, method).countPlaces() - 1)) {
            throw new IllegalArgumentException("no such place");
        }
        checkAdvice(advice);
        weaver.seek(type, method, place);
        return weaver.verdictOf(advice);
    }

    public int residues() {
        return weaver.countPairs(MAYBE);
    }

    public int woven() {
        return weaver.countPairs(YES);
    }

    // ---- Runs

    public char run(int type, int method, int value)
            throws IndexOutOfBoundsException, IllegalArgumentException, IllegalStateException {
        checkRun(type, method, value);
        machine.go(last, type, method, value, false);
        return last.end;
    }

    public char runAsking(int type, int method, int value)
            throws IndexOutOfBoundsException, IllegalArgumentException, IllegalStateException {
        checkRun(type, method, value);
        machine.go(last, type, method, value, true);
        return last.end;
    }

    public int result() throws IllegalStateException {
        if (last.end != RESULT && last.end != THROWN) {
            throw new IllegalStateException("no run, or it was given up");
        }
        return last.answer;
    }

    public int points() {
        return last.begun;
    }

    public int asked() {
        return last.questions;
    }

    public int traceLength() {
        return last.length;
    }

    public char traceKind(int index) throws IndexOutOfBoundsException {
        checkTrace(index);
        return advices.kinds[last.actors[index]];
    }

    public int traceValue(int index) throws IndexOutOfBoundsException {
        checkTrace(index);
        return last.values[index];
    }

    public int traceAdvice(int index) throws IndexOutOfBoundsException {
        checkTrace(index);
        return last.actors[index];
    }

    public long traceSum() {
        return last.sum();
    }

    public int acted(char kind) throws IllegalArgumentException {
        checkAdviceKind(kind);
        int times = 0;
        for (int i = 0; i < last.length; i++) {
            if (advices.kinds[last.actors[i]] == kind) {
                times++;
            }
        }
        return times;
    }

    // ---- Figures

    public float sureShare() throws ArithmeticException {
        int all = weaver.countAllPairs();
        if (all == 0) {
            throw new ArithmeticException("there are no pairs");
        }
        int sure = all - weaver.countPairs(MAYBE);
        return (float) sure / (float) all;
    }

    public double meanSteps() throws ArithmeticException {
        int bodies = classes.countBodies();
        if (bodies == 0) {
            throw new ArithmeticException("there are no bodies");
        }
        return (double) classes.countSteps() / (double) bodies;
    }

    public boolean isSound() {
        int type = classes.firstWithBody(0);
        if (order.hasRing || type < 0) {
            return true;
        }
        machine.go(wovenTrial, type, 0, 0, false);
        machine.go(askingTrial, type, 0, 0, true);
        return wovenTrial.isLike(askingTrial);
    }

    // ---- What calls look at first

    private void checkClass(int type) {
        if (!classes.has(type)) {
            throw new IndexOutOfBoundsException("no such class");
        }
    }

    private static void checkMethod(int method) {
        if (!isWithin(method, 0, METHODS - 1)) {
            throw new IllegalArgumentException("no such method");
        }
    }

    private void checkPattern(int pattern) {
        if (!isWithin(pattern, 0, patterns.count - 1)) {
            throw new NoSuchElementException("no such pattern");
        }
    }

    private static void checkAdviceKind(char kind) {
        if (ADVICE_KINDS.indexOf(kind) < 0) {
            throw new IllegalArgumentException("no such kind");
        }
    }

    private void checkAdvice(int advice) {
        if (!isWithin(advice, 0, advices.count - 1)) {
            throw new NoSuchElementException("no such advice");
        }
    }

    private static void checkAspect(int aspect) {
        if (!isWithin(aspect, 0, ASPECTS - 1)) {
            throw new IllegalArgumentException("no such aspect or rank");
        }
    }

    private void checkOrder() {
        if (order.hasRing) {
            throw new IllegalStateException("there is a ring");
        }
    }

    private void checkRun(int type, int method, int value) {
        checkClass(type);
        checkMethod(method);
        if (!isWithin(value, -NUMBER, NUMBER)) {
            throw new IllegalArgumentException("the value is out of range");
        }
        checkOrder();
    }

    private void checkTrace(int index) {
        if (!isWithin(index, 0, last.length - 1)) {
            throw new IndexOutOfBoundsException("no such index");
        }
    }

    private boolean isStep(char step, int a, int b) {
        if (STEP_KINDS.indexOf(step) < 0) {
            return false;
        }
        if (step == 'n') {
            return isWithin(a, -NUMBER, NUMBER);
        }
        if (step == 'c') {
            return isWithin(a, 0, METHODS - 1);
        }
        if (step == 'm') {
            return classes.has(a) && isWithin(b, 0, METHODS - 1);
        }
        if (step == 't') {
            return isWithin(a, 0, EXCEPTIONS - 1) && isWithin(b, -NUMBER, NUMBER);
        }
        if (step == 'h') {
            return isWithin(a, 0, EXCEPTIONS - 1);
        }
        return isWithin(a, 0, FIELDS - 1);
    }

    private static boolean isPatternNumber(char kind, int a) {
        if (kind == 'n' || kind == 't' || kind == 'w') {
            return isWithin(a, 0, CLASSES - 1);
        }
        return kind != 'v' || isWithin(a, -NUMBER, NUMBER);
    }

    private static boolean isWithin(int number, int low, int high) {
        return number >= low && number <= high;
    }

    private static boolean hasBit(int bits, int index) {
        return (bits >> index & 1) != 0;
    }

    /** The steps that a class has for a method; a body without steps is none. */
    private static final class Body {
        final char[] kinds = new char[STEPS];
        final int[] as = new int[STEPS];
        final int[] bs = new int[STEPS];
        int count;

        void add(char kind, int a, int b) {
            kinds[count] = kind;
            as[count] = a;
            bs[count] = b;
            count++;
        }

        int countPlaces() {
            if (count == 0) {
                return 0;
            }
            int places = 1;
            for (int step = 0; step < count; step++) {
                places += placesOf(step);
            }
            return places;
        }

        int placesOf(int step) {
            char kind = kinds[step];
            if (kind == 'n' || kind == 't') {
                return 0;
            }
            return kind == 'm' ? 2 : 1;
        }

        /** The step of the handler that takes what a step throws, or -1. */
        int handlerAhead(int step, int thrown) {
            for (int before = step - 1; before >= 0; before--) {
                if (kinds[before] == 'h' && thrown <= as[before]) {
                    return before;
                }
            }
            return -1;
        }
    }

    /** The classes, their parents and their bodies. */
    private static final class Classes {
        final int[] parents = new int[CLASSES];
        // A bit for each class that is below the one with the index.
        final int[] below = new int[CLASSES];
        final Body[] bodies = new Body[CLASSES * METHODS];
        int count;

        Classes() {
            for (int i = 0; i < bodies.length; i++) {
                bodies[i] = new Body();
            }
        }

        boolean has(int type) {
            return type >= 0 && type < count;
        }

        int add(int parent) {
            int type = count;
            parents[type] = parent;
            count++;
            int at = type;
            for (int up = 0; up < CLASSES && at >= 0; up++) {
                below[at] |= 1 << type;
                at = parents[at];
            }
            return type;
        }

        Body bodyOf(int type, int method) {
            return bodies[type * METHODS + method];
        }

        boolean isBelow(int type, int other) {
            return hasBit(below[other], type);
        }

        /** The class that has the body that is found, or -1. */
        int holderOf(int type, int method) {
            int at = type;
            for (int up = 0; up < CLASSES && at >= 0; up++) {
                if (bodyOf(at, method).count > 0) {
                    return at;
                }
                at = parents[at];
            }
            return -1;
        }

        /** A bit for each class for which the body of this holder is found. */
        int findersOf(int holder, int method) {
            int finders = 0;
            for (int type = 0; type < count; type++) {
                if (holderOf(type, method) == holder) {
                    finders |= 1 << type;
                }
            }
            return finders;
        }

        int firstWithBody(int method) {
            for (int type = 0; type < count; type++) {
                if (bodyOf(type, method).count > 0) {
                    return type;
                }
            }
            return -1;
        }

        int countBodies() {
            int found = 0;
            for (int i = 0; i < bodies.length; i++) {
                if (bodies[i].count > 0) {
                    found++;
                }
            }
            return found;
        }

        int countSteps() {
            int found = 0;
            for (int i = 0; i < bodies.length; i++) {
                found += bodies[i].count;
            }
            return found;
        }

        int countPlaces() {
            int found = 0;
            for (int i = 0; i < bodies.length; i++) {
                found += bodies[i].countPlaces();
            }
            return found;
        }
    }

    /** The patterns; one that is made of others has a higher number than these. */
    private static final class Patterns {
        final char[] kinds = new char[PATTERNS];
        final int[] as = new int[PATTERNS];
        final int[] bs = new int[PATTERNS];
        int count;

        static boolean isOfOne(char kind) {
            return kind == 'f' || kind == '!';
        }

        static boolean isOfTwo(char kind) {
            return kind == '&' || kind == '|';
        }

        int add(char kind, int a, int b) {
            int pattern = count;
            kinds[pattern] = kind;
            as[pattern] = a;
            bs[pattern] = b;
            count++;
            return pattern;
        }

        /** A bit for each pattern that holds for a point. */
        int heldAt(Point point, Classes classes) {
            int held = 0;
            for (int pattern = 0; pattern < count; pattern++) {
                if (holds(pattern, point, held, classes)) {
                    held |= 1 << pattern;
                }
            }
            return held;
        }

        private boolean holds(int pattern, Point point, int held, Classes classes) {
            char kind = kinds[pattern];
            int a = as[pattern];
            if (kind == 'n') {
                return point.name == a;
            }
            if (kind == 't') {
                return classes.isBelow(point.type, a);
            }
            if (kind == 'w') {
                return point.owner == a;
            }
            if (kind == 'v') {
                return point.value > a;
            }
            if (kind == 'f') {
                return hasBit(held | point.around, a);
            }
            if (kind == '!') {
                return !hasBit(held, a);
            }
            if (kind == '&') {
                return hasBit(held, a) && hasBit(held, bs[pattern]);
            }
            if (kind == '|') {
                return hasBit(held, a) || hasBit(held, bs[pattern]);
            }
            return point.kind == kind;
        }
    }

    /** The advices. */
    private static final class Advices {
        final int[] aspects = new int[ADVICES];
        final char[] kinds = new char[ADVICES];
        final int[] patterns = new int[ADVICES];
        final int[] mores = new int[ADVICES];
        final int[] times = new int[ADVICES];
        final boolean[] on = new boolean[ADVICES];
        int count;

        int add(int aspect, char kind, int pattern, int more, int often) {
            int advice = count;
            aspects[advice] = aspect;
            kinds[advice] = kind;
            patterns[advice] = pattern;
            mores[advice] = more;
            times[advice] = often;
            on[advice] = true;
            count++;
            return advice;
        }

        int countOn() {
            int found = 0;
            for (int advice = 0; advice < count; advice++) {
                if (on[advice]) {
                    found++;
                }
            }
            return found;
        }
    }

    /** The order of the aspects, found anew whenever something is told. */
    private static final class Order {
        // A bit for each aspect that is told to come ahead of the one with the index.
        final int[] ahead = new int[ASPECTS];
        final int[] ranks = new int[ASPECTS];
        boolean hasRing;

        Order() {
            for (int rank = 0; rank < ASPECTS; rank++) {
                ranks[rank] = rank;
            }
        }

        boolean tell(int first, int second, boolean isAhead) {
            boolean was = hasBit(ahead[second], first);
            if (was != isAhead) {
                ahead[second] ^= 1 << first;
                sort();
            }
            return was;
        }

        private void sort() {
            int taken = 0;
            hasRing = false;
            for (int rank = 0; rank < ASPECTS && !hasRing; rank++) {
                int next = lowestFree(taken);
                if (next < 0) {
                    hasRing = true;
                } else {
                    ranks[rank] = next;
                    taken |= 1 << next;
                }
            }
        }

        private int lowestFree(int taken) {
            for (int aspect = 0; aspect < ASPECTS; aspect++) {
                if (!hasBit(taken, aspect) && (ahead[aspect] & ~taken) == 0) {
                    return aspect;
                }
            }
            return -1;
        }
    }

    /** Finds for one place after the other what is sure of each pattern there. */
    private static final class Weaver {
        final Classes classes;
        final Patterns patterns;
        final Advices advices;
        final char[] verdicts = new char[PATTERNS];
        // The place that was looked at last: for 'h' the name is the highest one that there can be.
        char kind;
        int name;
        int owner;
        int objects;

        Weaver(Classes classes, Patterns patterns, Advices advices) {
            this.classes = classes;
            this.patterns = patterns;
            this.advices = advices;
        }

        char verdictOf(int advice) {
            return verdicts[advices.patterns[advice]];
        }

        int countAllPairs() {
            return classes.countPlaces() * advices.countOn();
        }

        /** Counts the pairs of a place and an advice that is on which have this verdict. */
        int countPairs(char verdict) {
            int pairs = 0;
            for (int type = 0; type < classes.count; type++) {
                for (int method = 0; method < METHODS; method++) {
                    int places = classes.bodyOf(type, method).countPlaces();
                    for (int place = 0; place < places; place++) {
                        seek(type, method, place);
                        pairs += countHere(verdict);
                    }
                }
            }
            return pairs;
        }

        private int countHere(char verdict) {
            int pairs = 0;
            for (int advice = 0; advice < advices.count; advice++) {
                if (advices.on[advice] && verdictOf(advice) == verdict) {
                    pairs++;
                }
            }
            return pairs;
        }

        /** Looks at the place with this number in a body. */
        void seek(int type, int method, int place) {
            Body body = classes.bodyOf(type, method);
            int left = place;
            int found = -1;
            char what = 'e';
            for (int step = 0; step < body.count && left > 0; step++) {
                int here = body.placesOf(step);
                if (left <= here) {
                    found = step;
                    what = left == 2 ? 'c' : body.kinds[step];
                }
                left -= here;
            }
            look(what, type, method, found);
        }

        /** Looks at the place for points of a kind in the run of a body, -1, or in a step of it. */
        void look(char what, int type, int method, int step) {
            Body body = classes.bodyOf(type, method);
            kind = what;
            owner = type;
            name = method;
            boolean isMaking = false;
            if (step >= 0 && step < body.count) {
                isMaking = body.kinds[step] == 'm';
                name = isMaking && what == 'c' ? body.bs[step] : body.as[step];
            }
            objects = isMaking ? 1 << body.as[step] : classes.findersOf(type, method);
            for (int pattern = 0; pattern < patterns.count; pattern++) {
                verdicts[pattern] = judge(pattern);
            }
        }

        private char judge(int pattern) {
            char sort = patterns.kinds[pattern];
            int a = patterns.as[pattern];
            if (sort == 'n') {
                return judgeName(a);
            }
            if (sort == 't') {
                return judgeClasses(a);
            }
            if (sort == 'w') {
                return sure(owner == a);
            }
            if (sort == 'v') {
                return MAYBE;
            }
            if (sort == 'f') {
                return verdicts[a] == YES ? YES : MAYBE;
            }
            if (sort == '!') {
                return turned(verdicts[a]);
            }
            if (sort == '&') {
                return both(verdicts[a], verdicts[patterns.bs[pattern]]);
            }
            if (sort == '|') {
                return either(verdicts[a], verdicts[patterns.bs[pattern]]);
            }
            return sure(kind == sort);
        }

        private char judgeName(int a) {
            if (kind == 'h') {
                return a <= name ? MAYBE : NO;
            }
            return sure(name == a);
        }

        private char judgeClasses(int a) {
            int below = objects & classes.below[a];
            if (below == 0) {
                return NO;
            }
            return below == objects ? YES : MAYBE;
        }

        private static char sure(boolean isSo) {
            return isSo ? YES : NO;
        }

        private static char turned(char one) {
            if (one == MAYBE) {
                return MAYBE;
            }
            return one == YES ? NO : YES;
        }

        private static char both(char one, char other) {
            if (one == NO || other == NO) {
                return NO;
            }
            return one == YES && other == YES ? YES : MAYBE;
        }

        private static char either(char one, char other) {
            if (one == YES || other == YES) {
                return YES;
            }
            return one == NO && other == NO ? NO : MAYBE;
        }
    }

    /** What a run did and how it ended. */
    private static final class Course {
        char end = ' ';
        int answer;
        int begun;
        int questions;
        final int[] actors = new int[ACTS];
        final int[] values = new int[ACTS];
        int length;

        void clear() {
            end = ' ';
            answer = 0;
            begun = 0;
            questions = 0;
            length = 0;
        }

        /** Whether there was room in the trace. */
        boolean add(int advice, int value) {
            if (length >= ACTS) {
                return false;
            }
            actors[length] = advice;
            values[length] = value;
            length++;
            return true;
        }

        long sum() {
            long sum = 0;
            for (int i = 0; i < length; i++) {
                sum += (i + 1L) * (values[i] + 131L * actors[i]);
            }
            return sum;
        }

        boolean isLike(Course other) {
            if (end != other.end || answer != other.answer || length != other.length) {
                return false;
            }
            for (int i = 0; i < length; i++) {
                if (values[i] != other.values[i] || actors[i] != other.actors[i]) {
                    return false;
                }
            }
            return true;
        }
    }

    /** A point that goes on, and the advices that are around it, the first one outermost. */
    private static final class Point {
        char kind;
        int name;
        int object;
        int type;
        int value;
        // The place; the owner is -1 without one.
        int owner;
        int method;
        // The patterns that held at the beginning, and those that held for a point around this.
        int held;
        int around;
        final int[] chain = new int[ADVICES];
        // How often an 'r' in the chain has still to go on.
        final int[] left = new int[ADVICES];
        int chained;
    }

    /** Runs methods; what a point, a step or a body comes to is left in the answer. */
    private static final class Machine {
        final Classes classes;
        final Patterns patterns;
        final Advices advices;
        final Order order;
        final Weaver weaver;
        final Point[] points = new Point[GOING_ON];
        final int[] types = new int[OBJECTS];
        final int[] fields = new int[OBJECTS * FIELDS];
        Course course;
        boolean asksAll;
        int going;
        int made;
        int answer;

        Machine(Classes classes, Patterns patterns, Advices advices, Order order, Weaver weaver, Course course) {
            this.course = course;
            this.classes = classes;
            this.patterns = patterns;
            this.advices = advices;
            this.order = order;
            this.weaver = weaver;
            for (int i = 0; i < GOING_ON; i++) {
                points[i] = new Point();
            }
        }

        void go(Course course, int type, int method, int value, boolean asksAll) {
            course.clear();
            this.course = course;
            this.asksAll = asksAll;
            going = 0;
            made = 0;
            char end = meet('c', method, make(type), value, -1, -1, -1);
            course.end = end;
            course.answer = end == GIVEN_UP ? 0 : answer;
        }

        private boolean mayBegin() {
            return course.begun < POINTS && going < GOING_ON && made < OBJECTS;
        }

        /** Makes an object; it is the first one of the run, or the point behind it may begin. */
        private int make(int type) {
            int object = made;
            types[object] = type;
            for (int field = 0; field < FIELDS; field++) {
                fields[object * FIELDS + field] = 0;
            }
            made++;
            return object;
        }

        /** Lets a point begin, go through its advice, and end. */
        private char meet(char kind, int name, int object, int value, int owner, int method, int step) {
            if (!mayBegin()) {
                return GIVEN_UP;
            }
            Point point = points[going];
            point.kind = kind;
            point.name = name;
            point.object = object;
            point.type = types[object];
            point.value = value;
            point.owner = owner;
            point.method = method;
            point.around = going == 0 ? 0 : points[going - 1].around | points[going - 1].held;
            point.held = patterns.heldAt(point, classes);
            choose(point, step);
            course.begun++;
            going++;
            char end = weave(point);
            going--;
            return end;
        }

        private void choose(Point point, int step) {
            boolean isAsking = asksAll || point.owner < 0;
            if (!isAsking) {
                weaver.look(point.kind, point.owner, point.method, step);
            }
            point.chained = 0;
            for (int rank = 0; rank < ASPECTS; rank++) {
                int aspect = order.ranks[rank];
                for (int advice = 0; advice < advices.count; advice++) {
                    if (advices.on[advice] && advices.aspects[advice] == aspect && takes(point, advice, isAsking)) {
                        point.chain[point.chained] = advice;
                        point.chained++;
                    }
                }
            }
        }

        private boolean takes(Point point, int advice, boolean isAsking) {
            char verdict = isAsking ? MAYBE : weaver.verdictOf(advice);
            if (verdict != MAYBE) {
                return verdict == YES;
            }
            course.questions++;
            return hasBit(point.held, advices.patterns[advice]);
        }

        /** Goes inward and outward through the advice of a point: a call for each would go too deep. */
        private char weave(Point point) {
            char way = INWARD;
            int at = 0;
            answer = point.value;
            for (int turn = 0; turn < TURNS && at >= 0 && way != GIVEN_UP; turn++) {
                if (way == INWARD && at >= point.chained) {
                    way = perform(point, answer);
                    at = point.chained - 1;
                } else {
                    way = way == INWARD ? enter(point, at) : leave(point, at, way);
                    at += way == INWARD ? 1 : -1;
                }
            }
            return way == INWARD ? GIVEN_UP : way;
        }

        private char enter(Point point, int at) {
            int advice = point.chain[at];
            char kind = advices.kinds[advice];
            if ((kind == 'b' || kind == 'r') && !course.add(advice, answer)) {
                return GIVEN_UP;
            }
            if (kind != 'r') {
                return INWARD;
            }
            point.left[at] = advices.times[advice];
            return repeat(point, at);
        }

        private char leave(Point point, int at, char end) {
            int advice = point.chain[at];
            char kind = advices.kinds[advice];
            if (kind == 'r') {
                return end == RESULT ? repeat(point, at) : end;
            }
            boolean acts = kind == 'f' || kind == 'a' && end == RESULT || kind == 'x' && end == THROWN;
            if (acts && !course.add(advice, answer)) {
                return GIVEN_UP;
            }
            return end;
        }

        private char repeat(Point point, int at) {
            if (point.left[at] <= 0) {
                return RESULT;
            }
            point.left[at]--;
            answer += advices.mores[point.chain[at]];
            return INWARD;
        }

        /** Does what the point is. */
        private char perform(Point point, int value) {
            if (point.kind == 'c') {
                return call(point, value);
            }
            if (point.kind == 'e') {
                return runBody(point, value);
            }
            answer = value;
            int field = point.object * FIELDS + point.name;
            if (point.kind == 'g') {
                answer += fields[field];
            } else if (point.kind == 's') {
                fields[field] = value;
            }
            return RESULT;
        }

        private char call(Point point, int value) {
            int holder = classes.holderOf(point.type, point.name);
            if (holder < 0) {
                answer = NO_BODY;
                return THROWN;
            }
            return meet('e', point.name, point.object, value, holder, point.name, -1);
        }

        private char runBody(Point point, int value) {
            Body body = classes.bodyOf(point.owner, point.method);
            answer = value;
            for (int step = 0; step < body.count; step++) {
                boolean isMaking = body.kinds[step] == 'm';
                char end = isMaking ? doMake(point, body, step, answer) : doStep(point, body, step, answer);
                if (end == THROWN) {
                    end = handle(point, body, step, answer);
                }
                if (end != RESULT) {
                    return end;
                }
            }
            return RESULT;
        }

        private char doStep(Point run, Body body, int step, int value) {
            char kind = body.kinds[step];
            int a = body.as[step];
            if (kind == 'c' || kind == 'g' || kind == 's') {
                return meet(kind, a, run.object, value, run.owner, run.method, step);
            }
            if (kind == 't' && value > body.bs[step]) {
                answer = a;
                return THROWN;
            }
            answer = kind == 'n' ? value + a : value;
            return RESULT;
        }

        private char doMake(Point run, Body body, int step, int value) {
            if (!mayBegin()) {
                return GIVEN_UP;
            }
            int type = body.as[step];
            int object = make(type);
            char end = meet('m', type, object, value, run.owner, run.method, step);
            if (end != RESULT) {
                return end;
            }
            return meet('c', body.bs[step], object, answer, run.owner, run.method, step);
        }

        private char handle(Point run, Body body, int step, int thrown) {
            int handler = body.handlerAhead(step, thrown);
            if (handler < 0) {
                return THROWN;
            }
            return meet('h', thrown, run.object, 0, run.owner, run.method, handler);
        }
    }
}
