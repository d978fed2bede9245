import java.util.function.Supplier;

/**
 * "A method that throws an exception changes nothing. If several exceptions apply, the one that is
 * documented first is thrown." Each refusal, at the first number that is not allowed and at the ends
 * of the ints, on objects that hold something, and what is seen of the object behind it.
 */
public final class RefusalsTest extends Checks {
    private static final int LOWEST = Integer.MIN_VALUE;
    private static final int HIGHEST = Integer.MAX_VALUE;
    // No class of States.some, no method, no value.
    private static final int[] NO_CLASS = {-1, 3, 6, LOWEST, HIGHEST};
    private static final int[] NO_METHOD = {-1, 6, LOWEST, HIGHEST};
    private static final int[] NO_VALUE = {-100, 100, LOWEST, HIGHEST};
    private static final int[] NO_ASPECT = {-1, 4, LOWEST, HIGHEST};

    public static void main(String[] args) {
        addClass();
        addStepByItsBody();
        addStepByItsNumbers();
        bodies();
        addPattern();
        addAdvice();
        turn();
        order();
        match();
        runs();
        traces();
        nothingThere();
        finish();
    }

    private static void addClass() {
        for (int parent : new int[] {-2, 3, LOWEST, HIGHEST}) {
            refuses("addClass: no parent " + parent, INDEX, States::some, x -> x.addClass(parent));
        }
        for (int parent = -1; parent < 6; parent++) {
            int number = parent;
            refuses("addClass: a seventh one below " + parent, STATE, States::full, x -> x.addClass(number));
        }
        refuses("addClass: a seventh one, and no parent", INDEX, States::full, x -> x.addClass(6));
        refuses("addClass: a seventh one, and no parent -2", INDEX, States::full, x -> x.addClass(-2));
        for (int count = 0; count < 6; count++) {
            int classes = count;
            Supplier<Weaversgate> maker = () -> withClasses(classes);
            refuses("addClass: itself as its parent, behind " + count, INDEX, maker, x -> x.addClass(classes));
        }
    }

    private static Weaversgate withClasses(int count) {
        Weaversgate x = new Weaversgate();
        for (int i = 0; i < count; i++) {
            x.addClass(-1);
        }
        return x;
    }

    private static void addStepByItsBody() {
        for (int type : NO_CLASS) {
            refuses("addStep: no class " + type, INDEX, States::some, x -> x.addStep(type, 0, 'n', 0, 0));
            refuses("addStep: no class, no method", INDEX, States::some, x -> x.addStep(type, 6, 'n', 0, 0));
            refuses("addStep: no class, no step", INDEX, States::some, x -> x.addStep(type, 0, 'z', 0, 0));
            refuses("addStep: no class, no number", INDEX, States::some, x -> x.addStep(type, 0, 'n', 100, 0));
        }
        for (int method : NO_METHOD) {
            refuses("addStep: no method " + method, ARGUMENT, States::some, x -> x.addStep(0, method, 'n', 0, 0));
        }
        // The method 1 of the class 0 has 8 steps.
        refuses("addStep: a ninth", STATE, States::some, x -> x.addStep(0, 1, 'n', 0, 0));
        refuses("addStep: a ninth of each kind", STATE, States::some, x -> x.addStep(0, 1, 'm', 2, 5));
        refuses("addStep: a ninth, no step", ARGUMENT, States::some, x -> x.addStep(0, 1, 'z', 0, 0));
        refuses("addStep: a ninth, no number", ARGUMENT, States::some, x -> x.addStep(0, 1, 'n', 100, 0));
        refuses("addStep: a ninth, no class for 'm'", ARGUMENT, States::some, x -> x.addStep(0, 1, 'm', 3, 0));
        refuses("addStep: a ninth, no b for 't'", ARGUMENT, States::some, x -> x.addStep(0, 1, 't', 0, -100));
    }

    private static void addStepByItsNumbers() {
        for (char step = 0; step < 300; step++) {
            char letter = step;
            if ("ncmgsth".indexOf(step) < 0) {
                due("addStep: no step " + (int) step, ARGUMENT, () -> States.some().addStep(0, 2, letter, 0, 0));
            }
        }
        refuses("addStep: no step 'e'", ARGUMENT, States::some, x -> x.addStep(0, 2, 'e', 0, 0));
        refusesA('n', -100, 100);
        refusesA('c', -1, 6);
        refusesA('m', -1, 3);
        refusesA('g', -1, 4);
        refusesA('s', -1, 4);
        refusesA('t', -1, 4);
        refusesA('h', -1, 4);
        refusesB('m', -1, 6);
        refusesB('t', -100, 100);
        for (char step : "ncgsh".toCharArray()) {
            for (int b : new int[] {LOWEST, -100, 100, HIGHEST}) {
                due("addStep: b " + b + " has no meaning for " + step, 1, () -> States.some().addStep(0, 2, step, 0, b));
            }
        }
    }

    private static void refusesA(char step, int below, int above) {
        for (int a : new int[] {below, above, LOWEST, HIGHEST}) {
            refuses("addStep: " + step + " " + a, ARGUMENT, States::some, x -> x.addStep(0, 2, step, a, 0));
        }
        due("addStep: " + step + " with the lowest", 1, () -> States.some().addStep(0, 2, step, below + 1, 0));
        due("addStep: " + step + " with the highest", 1, () -> States.some().addStep(0, 2, step, above - 1, 0));
    }

    private static void refusesB(char step, int below, int above) {
        for (int b : new int[] {below, above, LOWEST, HIGHEST}) {
            refuses("addStep: " + step + " 0 " + b, ARGUMENT, States::some, x -> x.addStep(0, 2, step, 0, b));
        }
        due("addStep: " + step + " with the lowest b", 1, () -> States.some().addStep(0, 2, step, 0, below + 1));
        due("addStep: " + step + " with the highest b", 1, () -> States.some().addStep(0, 2, step, 0, above - 1));
    }

    /** dropBody, finds and places refuse alike. */
    private static void bodies() {
        for (int type : NO_CLASS) {
            for (int method : new int[] {0, 6}) {
                refuses("dropBody: no class " + type, INDEX, States::some, x -> x.dropBody(type, method));
                refuses("finds: no class " + type, INDEX, States::some, x -> x.finds(type, method));
                refuses("places: no class " + type, INDEX, States::some, x -> x.places(type, method));
            }
        }
        for (int method : NO_METHOD) {
            refuses("dropBody: no method " + method, ARGUMENT, States::some, x -> x.dropBody(0, method));
            refuses("finds: no method " + method, ARGUMENT, States::some, x -> x.finds(0, method));
            refuses("places: no method " + method, ARGUMENT, States::some, x -> x.places(0, method));
        }
        due("dropBody: the highest method and class", 0, () -> States.some().dropBody(2, 5));
        due("finds: the highest method and class", -1, () -> States.some().finds(2, 5));
        due("places: the highest method and class", 0, () -> States.some().places(2, 5));
    }

    private static void addPattern() {
        for (char kind = 0; kind < 300; kind++) {
            char letter = kind;
            if ("ceghsmntwvf&|!".indexOf(kind) < 0) {
                due("addPattern: no kind " + (int) kind, ARGUMENT, () -> States.some().addPattern(letter, 0, 0));
            }
        }
        refuses("addPattern: no kind 'x'", ARGUMENT, States::some, x -> x.addPattern('x', 0, 0));
        for (char kind : "ntw".toCharArray()) {
            refusesPattern(kind, ARGUMENT, -1, 6);
        }
        refusesPattern('v', ARGUMENT, -100, 100);
        // There are four patterns.
        for (char kind : "f&|!".toCharArray()) {
            refusesPattern(kind, ELEMENT, -1, 4);
        }
        for (int b : new int[] {-1, 4, LOWEST, HIGHEST}) {
            refuses("addPattern: & 0 " + b, ELEMENT, States::some, x -> x.addPattern('&', 0, b));
            refuses("addPattern: | 3 " + b, ELEMENT, States::some, x -> x.addPattern('|', 3, b));
            due("addPattern: b " + b + " has no meaning for f", 4, () -> States.some().addPattern('f', 3, b));
            due("addPattern: b " + b + " has no meaning for !", 4, () -> States.some().addPattern('!', 3, b));
        }
        due("addPattern: & of the last one", 4, () -> States.some().addPattern('&', 3, 3));
        due("addPattern: | of the last one", 4, () -> States.some().addPattern('|', 3, 3));
        refuses("addPattern: a 25th", STATE, States::full, x -> x.addPattern('c', 0, 0));
        refuses("addPattern: a 25th of the last one", STATE, States::full, x -> x.addPattern('&', 23, 23));
        refuses("addPattern: a 25th of none", ELEMENT, States::full, x -> x.addPattern('f', 24, 0));
        refuses("addPattern: a 25th of one and none", ELEMENT, States::full, x -> x.addPattern('|', 0, 24));
        refuses("addPattern: a 25th of no kind", ARGUMENT, States::full, x -> x.addPattern('x', 24, 24));
        refuses("addPattern: a 25th with no number", ARGUMENT, States::full, x -> x.addPattern('v', 100, 0));
    }

    private static void refusesPattern(char kind, String want, int below, int above) {
        for (int a : new int[] {below, above, LOWEST, HIGHEST}) {
            refuses("addPattern: " + kind + " " + a, want, States::some, x -> x.addPattern(kind, a, 0));
        }
        due("addPattern: " + kind + " with the lowest", 4, () -> States.some().addPattern(kind, below + 1, 0));
        due("addPattern: " + kind + " with the highest", 4, () -> States.some().addPattern(kind, above - 1, 0));
    }

    private static void addAdvice() {
        for (int aspect : NO_ASPECT) {
            refuses("addAdvice: aspect " + aspect, ARGUMENT, States::some, x -> x.addAdvice(aspect, 'b', 0, 0, 0));
            refuses("addAdvice: aspect, pattern", ARGUMENT, States::some, x -> x.addAdvice(aspect, 'b', 4, 0, 0));
            refuses("addAdvice: aspect, a 13th", ARGUMENT, States::full, x -> x.addAdvice(aspect, 'b', 0, 0, 0));
        }
        for (char kind = 0; kind < 300; kind++) {
            char letter = kind;
            if ("baxfr".indexOf(kind) < 0) {
                due("addAdvice: no kind " + (int) kind, ARGUMENT, () -> States.some().addAdvice(0, letter, 0, 0, 0));
            }
        }
        refuses("addAdvice: no kind, no pattern", ARGUMENT, States::some, x -> x.addAdvice(0, 'c', 4, 0, 0));
        refuses("addAdvice: no kind, a 13th", ARGUMENT, States::full, x -> x.addAdvice(0, 'c', 0, 0, 0));
        for (int more : NO_VALUE) {
            refuses("addAdvice: more " + more, ARGUMENT, States::some, x -> x.addAdvice(0, 'r', 0, more, 0));
            refuses("addAdvice: more, pattern", ARGUMENT, States::some, x -> x.addAdvice(0, 'r', 4, more, 0));
            refuses("addAdvice: more, a 13th", ARGUMENT, States::full, x -> x.addAdvice(0, 'r', 0, more, 0));
        }
        for (int times : new int[] {-1, 3, LOWEST, HIGHEST}) {
            refuses("addAdvice: times " + times, ARGUMENT, States::some, x -> x.addAdvice(0, 'r', 0, 0, times));
            refuses("addAdvice: times, pattern", ARGUMENT, States::some, x -> x.addAdvice(0, 'r', -1, 0, times));
            refuses("addAdvice: times, a 13th", ARGUMENT, States::full, x -> x.addAdvice(0, 'r', 0, 0, times));
        }
        for (int pattern : new int[] {-1, 4, 24, LOWEST, HIGHEST}) {
            refuses("addAdvice: pattern " + pattern, ELEMENT, States::some, x -> x.addAdvice(0, 'b', pattern, 0, 0));
        }
        refuses("addAdvice: a 13th", STATE, States::full, x -> x.addAdvice(0, 'b', 23, 0, 0));
        refuses("addAdvice: a 13th of none", ELEMENT, States::full, x -> x.addAdvice(0, 'b', 24, 0, 0));
        for (char kind : "baxfr".toCharArray()) {
            due("addAdvice: the lowest numbers", 4, () -> States.some().addAdvice(0, kind, 0, -99, 0));
            due("addAdvice: the highest numbers", 4, () -> States.some().addAdvice(3, kind, 3, 99, 2));
        }
    }

    private static void turn() {
        for (int advice : new int[] {-1, 4, 12, LOWEST, HIGHEST}) {
            refuses("turn: on, no advice " + advice, ELEMENT, States::some, x -> x.turn(advice, true));
            refuses("turn: off, no advice " + advice, ELEMENT, States::some, x -> x.turn(advice, false));
        }
        refuses("turn: no 13th", ELEMENT, States::full, x -> x.turn(12, false));
        due("turn: the last one of twelve", true, () -> States.full().turn(11, false));
    }

    private static void order() {
        for (int aspect : NO_ASPECT) {
            for (boolean isAhead : new boolean[] {false, true}) {
                refuses("precede: first " + aspect, ARGUMENT, States::some, x -> x.precede(aspect, 0, isAhead));
                refuses("precede: second " + aspect, ARGUMENT, States::some, x -> x.precede(0, aspect, isAhead));
                refuses("precede: both " + aspect, ARGUMENT, States::some, x -> x.precede(aspect, aspect, isAhead));
            }
            refuses("aspectAt: rank " + aspect, ARGUMENT, States::some, x -> x.aspectAt(aspect));
            refuses("aspectAt: rank " + aspect + ", a ring", ARGUMENT, States::ring, x -> x.aspectAt(aspect));
        }
        for (int aspect = 0; aspect < 4; aspect++) {
            int number = aspect;
            refuses("precede: the same, " + aspect, ARGUMENT, States::some, x -> x.precede(number, number, true));
            refuses("precede: not the same, " + aspect, ARGUMENT, States::ring, x -> x.precede(number, number, false));
            refuses("aspectAt: a ring, rank " + aspect, STATE, States::ring, x -> x.aspectAt(number));
        }
        due("precede: the lowest and the highest", false, () -> States.some().precede(0, 3, true));
        due("aspectAt: the highest rank", 3, () -> States.some().aspectAt(3));
    }

    private static void match() {
        // The method 0 of the class 0 has the places e, s, c, m and c; the method 2 has none.
        for (int type : NO_CLASS) {
            refuses("match: no class " + type, INDEX, States::some, x -> x.match(type, 0, 0, 0));
            refuses("match: no class, no method", INDEX, States::some, x -> x.match(type, 6, 0, 0));
            refuses("match: no class, no advice", INDEX, States::some, x -> x.match(type, 0, 0, 4));
        }
        for (int method : NO_METHOD) {
            refuses("match: no method " + method, ARGUMENT, States::some, x -> x.match(0, method, 0, 0));
            refuses("match: no method, no advice", ARGUMENT, States::some, x -> x.match(0, method, 0, 4));
        }
        for (int place : new int[] {-1, 5, LOWEST, HIGHEST}) {
            refuses("match: no place " + place, ARGUMENT, States::some, x -> x.match(0, 0, place, 0));
            refuses("match: no place, no advice", ARGUMENT, States::some, x -> x.match(0, 0, place, 4));
        }
        refuses("match: no body", ARGUMENT, States::some, x -> x.match(0, 2, 0, 0));
        refuses("match: no body of its own", ARGUMENT, States::some, x -> x.match(1, 1, 0, 0));
        for (int advice : new int[] {-1, 4, 12, LOWEST, HIGHEST}) {
            refuses("match: no advice " + advice, ELEMENT, States::some, x -> x.match(0, 0, 4, advice));
        }
        due("match: the last place and advice", 'y', () -> States.some().match(0, 0, 4, 3));
    }

    private static void runs() {
        for (int type : NO_CLASS) {
            for (int method : new int[] {0, 6}) {
                for (int value : new int[] {0, 100}) {
                    refuses("run: no class " + type, INDEX, States::ring, x -> x.run(type, method, value));
                    refuses("runAsking: no class " + type, INDEX, States::ring, x -> x.runAsking(type, method, value));
                }
            }
        }
        for (int method : NO_METHOD) {
            refuses("run: no method " + method, ARGUMENT, States::some, x -> x.run(0, method, 0));
            refuses("runAsking: no method " + method, ARGUMENT, States::some, x -> x.runAsking(0, method, 0));
            refuses("run: no method, a ring", ARGUMENT, States::ring, x -> x.run(0, method, 0));
            refuses("runAsking: no method, a ring", ARGUMENT, States::ring, x -> x.runAsking(0, method, 0));
        }
        for (int value : NO_VALUE) {
            refuses("run: value " + value, ARGUMENT, States::some, x -> x.run(0, 0, value));
            refuses("runAsking: value " + value, ARGUMENT, States::some, x -> x.runAsking(0, 0, value));
            refuses("run: value, a ring", ARGUMENT, States::ring, x -> x.run(0, 0, value));
            refuses("runAsking: value, a ring", ARGUMENT, States::ring, x -> x.runAsking(0, 0, value));
        }
        refuses("run: a ring", STATE, States::ring, x -> x.run(0, 0, 0));
        refuses("runAsking: a ring", STATE, States::ring, x -> x.runAsking(0, 0, 0));
        refuses("run: a ring, and no body", STATE, States::ring, x -> x.run(2, 5, 99));
        refuses("result: given up", STATE, States::givenUp, Weaversgate::result);
        refuses("result: no run", STATE, Weaversgate::new, Weaversgate::result);
    }

    private static void traces() {
        int length = States.some().traceLength();
        due("traceLength: there is a trace", true, () -> length > 0);
        for (int index : new int[] {-1, length, 400, LOWEST, HIGHEST}) {
            refuses("traceKind: " + index, INDEX, States::some, x -> x.traceKind(index));
            refuses("traceValue: " + index, INDEX, States::some, x -> x.traceValue(index));
            refuses("traceAdvice: " + index, INDEX, States::some, x -> x.traceAdvice(index));
        }
        refuses("traceKind: no run", INDEX, Weaversgate::new, x -> x.traceKind(0));
        refuses("traceValue: no run", INDEX, Weaversgate::new, x -> x.traceValue(0));
        refuses("traceAdvice: no run", INDEX, Weaversgate::new, x -> x.traceAdvice(0));
        for (char kind = 0; kind < 300; kind++) {
            char letter = kind;
            if ("baxfr".indexOf(kind) < 0) {
                due("acted: no kind " + (int) kind, ARGUMENT, () -> new Weaversgate().acted(letter));
            }
        }
        refuses("acted: no kind 'c'", ARGUMENT, States::some, x -> x.acted('c'));
    }

    /** Each call on an object in which there is nothing. */
    private static void nothingThere() {
        refuses("nothing: sureShare", ARITHMETIC, Weaversgate::new, Weaversgate::sureShare);
        refuses("nothing: meanSteps", ARITHMETIC, Weaversgate::new, Weaversgate::meanSteps);
        refuses("nothing: addClass", INDEX, Weaversgate::new, x -> x.addClass(0));
        refuses("nothing: addStep", INDEX, Weaversgate::new, x -> x.addStep(0, 0, 'n', 0, 0));
        refuses("nothing: dropBody", INDEX, Weaversgate::new, x -> x.dropBody(0, 0));
        refuses("nothing: finds", INDEX, Weaversgate::new, x -> x.finds(0, 0));
        refuses("nothing: places", INDEX, Weaversgate::new, x -> x.places(0, 0));
        refuses("nothing: match", INDEX, Weaversgate::new, x -> x.match(0, 0, 0, 0));
        refuses("nothing: run", INDEX, Weaversgate::new, x -> x.run(0, 0, 0));
        refuses("nothing: runAsking", INDEX, Weaversgate::new, x -> x.runAsking(0, 0, 0));
        refuses("nothing: addAdvice", ELEMENT, Weaversgate::new, x -> x.addAdvice(0, 'b', 0, 0, 0));
        refuses("nothing: addPattern", ELEMENT, Weaversgate::new, x -> x.addPattern('!', 0, 0));
        refuses("nothing: turn", ELEMENT, Weaversgate::new, x -> x.turn(0, true));
        refuses("nothing: sureShare, no advice is on", ARITHMETIC, RefusalsTest::withAllOff, Weaversgate::sureShare);
        refuses("nothing: sureShare, no place", ARITHMETIC, RefusalsTest::withoutBody, Weaversgate::sureShare);
        refuses("nothing: meanSteps, no body", ARITHMETIC, RefusalsTest::withoutBody, Weaversgate::meanSteps);
    }

    private static Weaversgate withAllOff() {
        Weaversgate x = States.some();
        for (int advice = 0; advice < 4; advice++) {
            x.turn(advice, false);
        }
        return x;
    }

    private static Weaversgate withoutBody() {
        Weaversgate x = States.some();
        x.dropBody(0, 0);
        x.dropBody(0, 1);
        x.dropBody(1, 0);
        return x;
    }
}
