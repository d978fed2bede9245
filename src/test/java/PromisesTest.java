/** Each promise of the document, with ordinary inputs, its edges and wrong inputs. */
public final class PromisesTest extends Checks {
    public static void main(String[] args) {
        newObject();
        addClass();
        addStep();
        dropBody();
        finds();
        addPattern();
        addAdvice();
        turn();
        precede();
        isRing();
        aspectAt();
        places();
        matchOfKindsAndPlaces();
        matchOfNames();
        matchOfClasses();
        matchOfOthers();
        matchRefuses();
        residuesAndWoven();
        runOfSteps();
        runOfFields();
        runOfMaking();
        runOfExceptions();
        runOfHandlers();
        runOfAdvice();
        runOfAround();
        runOfBehind();
        runOfOrder();
        runOfPatterns();
        runOfWhatGoesOn();
        runGivenUp();
        allThatThereCanBe();
        runRefuses();
        runAsking();
        result();
        pointsAndAsked();
        trace();
        traceSum();
        acted();
        sureShare();
        meanSteps();
        isSound();
        aThrowChangesNothing();
        finish();
    }

    // ---- The promises

    private static void newObject() {
        Weaversgate x = new Weaversgate();
        due("new: no class", INDEX, () -> x.finds(0, 0));
        due("new: no pattern", ELEMENT, () -> x.addAdvice(0, 'b', 0, 0, 0));
        due("new: no advice", ELEMENT, () -> x.turn(0, true));
        due("new: no ring", false, x::isRing);
        due("new: no points", 0, x::points);
        due("new: nothing asked", 0, x::asked);
        due("new: no trace", 0, x::traceLength);
        due("new: no result", STATE, x::result);
        due("new: is sound", true, x::isSound);
        Weaversgate other = withClass();
        due("new: objects are apart", 0, () -> new Weaversgate().addClass(-1));
        due("new: and stay so", 1, () -> other.addClass(0));
    }

    private static void addClass() {
        Weaversgate x = new Weaversgate();
        due("addClass: no parent 0 yet", INDEX, () -> x.addClass(0));
        due("addClass: -2", INDEX, () -> x.addClass(-2));
        due("addClass: the first one", 0, () -> x.addClass(-1));
        due("addClass: itself", INDEX, () -> x.addClass(1));
        for (int i = 1; i < 6; i++) {
            int number = i;
            due("addClass: number " + i, number, () -> x.addClass(number % 2 == 0 ? -1 : number - 1));
        }
        due("addClass: a seventh", STATE, () -> x.addClass(-1));
        due("addClass: a seventh without parent", INDEX, () -> x.addClass(6));
        due("addClass: the least int", INDEX, () -> x.addClass(Integer.MIN_VALUE));
    }

    private static void addStep() {
        Weaversgate x = withClass();
        due("addStep: no class", INDEX, () -> x.addStep(1, 9, 'z', 0, 0));
        due("addStep: class -1", INDEX, () -> x.addStep(-1, 0, 'n', 0, 0));
        due("addStep: no method", ARGUMENT, () -> x.addStep(0, 6, 'n', 0, 0));
        due("addStep: method -1", ARGUMENT, () -> x.addStep(0, -1, 'n', 0, 0));
        due("addStep: no step", ARGUMENT, () -> x.addStep(0, 0, 'e', 0, 0));
        due("addStep: no step, the sign 0", ARGUMENT, () -> x.addStep(0, 0, (char) 0, 0, 0));
        stepRange('n', -99, 99);
        stepRange('c', 0, 5);
        stepRange('m', 0, 0);
        stepRange('g', 0, 3);
        stepRange('s', 0, 3);
        stepRange('t', 0, 3);
        stepRange('h', 0, 3);
        secondRange('m', 0, 5);
        secondRange('t', -99, 99);
        for (char step : "ncgsh".toCharArray()) {
            due("addStep: b has no meaning for " + step, 1, () -> withClass().addStep(0, 0, step, 0, 1000));
            due("addStep: b has no meaning for " + step, 1, () -> withClass().addStep(0, 0, step, 0, -1000));
        }
        for (int i = 1; i <= 8; i++) {
            due("addStep: number " + i, i, () -> x.addStep(0, 5, 'n', 1, 0));
        }
        due("addStep: a ninth", STATE, () -> x.addStep(0, 5, 'n', 1, 0));
        due("addStep: a ninth that is wrong", ARGUMENT, () -> x.addStep(0, 5, 'n', 100, 0));
        due("addStep: another body", 1, () -> x.addStep(0, 4, 'n', 1, 0));
        ends("addStep: the steps are behind one another", x, 0, 5, 1, "r 9");
    }

    private static void stepRange(char step, int low, int high) {
        due("addStep: " + step + " " + low, 1, () -> withClass().addStep(0, 0, step, low, 0));
        due("addStep: " + step + " " + high, 1, () -> withClass().addStep(0, 0, step, high, 0));
        due("addStep: " + step + " below", ARGUMENT, () -> withClass().addStep(0, 0, step, low - 1, 0));
        due("addStep: " + step + " above", ARGUMENT, () -> withClass().addStep(0, 0, step, high + 1, 0));
    }

    private static void secondRange(char step, int low, int high) {
        due("addStep: " + step + " b " + low, 1, () -> withClass().addStep(0, 0, step, 0, low));
        due("addStep: " + step + " b " + high, 1, () -> withClass().addStep(0, 0, step, 0, high));
        due("addStep: " + step + " b below", ARGUMENT, () -> withClass().addStep(0, 0, step, 0, low - 1));
        due("addStep: " + step + " b above", ARGUMENT, () -> withClass().addStep(0, 0, step, 0, high + 1));
    }

    private static void dropBody() {
        Weaversgate x = withClass();
        x.addClass(0);
        steps(x, 0, 2, "n 1 0, n 2 0, n 3 0");
        due("dropBody: no class", INDEX, () -> x.dropBody(2, 9));
        due("dropBody: no method", ARGUMENT, () -> x.dropBody(0, 6));
        due("dropBody: method -1", ARGUMENT, () -> x.dropBody(0, -1));
        due("dropBody: only its own", 0, () -> x.dropBody(1, 2));
        due("dropBody: three steps", 3, () -> x.dropBody(0, 2));
        due("dropBody: none is left", 0, () -> x.dropBody(0, 2));
        due("dropBody: none is found", -1, () -> x.finds(1, 2));
        due("dropBody: a new one begins anew", 1, () -> x.addStep(0, 2, 'n', 7, 0));
        ends("dropBody: with its steps alone", x, 1, 2, 0, "r 7");
    }

    private static void finds() {
        Weaversgate x = withClass();
        x.addClass(0);
        x.addClass(1);
        x.addClass(-1);
        due("finds: none", -1, () -> x.finds(2, 0));
        steps(x, 0, 0, "n 1 0");
        due("finds: its own", 0, () -> x.finds(0, 0));
        due("finds: two above", 0, () -> x.finds(2, 0));
        due("finds: not beside", -1, () -> x.finds(3, 0));
        due("finds: another method", -1, () -> x.finds(2, 1));
        steps(x, 1, 0, "n 2 0");
        due("finds: the nearest", 1, () -> x.finds(2, 0));
        due("finds: not below", 0, () -> x.finds(0, 0));
        due("finds: no class", INDEX, () -> x.finds(4, 9));
        due("finds: class -1", INDEX, () -> x.finds(-1, 0));
        due("finds: no method", ARGUMENT, () -> x.finds(0, 6));
        due("finds: method -1", ARGUMENT, () -> x.finds(0, -1));
    }

    private static void addPattern() {
        Weaversgate x = new Weaversgate();
        due("addPattern: no kind", ARGUMENT, () -> x.addPattern('z', 0, 0));
        due("addPattern: no kind, beyond 255", ARGUMENT, () -> x.addPattern((char) 355, 0, 0));
        for (char kind : "ntw".toCharArray()) {
            patternRange(kind, 0, 5);
        }
        patternRange('v', -99, 99);
        for (char kind : "ceghsm".toCharArray()) {
            due("addPattern: numbers have no meaning for " + kind, 0, () -> new Weaversgate().addPattern(kind, -500, 500));
        }
        for (char kind : "f&|!".toCharArray()) {
            due("addPattern: no pattern for " + kind, ELEMENT, () -> x.addPattern(kind, 0, 0));
            due("addPattern: pattern -1 for " + kind, ELEMENT, () -> x.addPattern(kind, -1, 0));
        }
        due("addPattern: the first", 0, () -> x.addPattern('c', 0, 0));
        due("addPattern: a is no pattern for &", ELEMENT, () -> x.addPattern('&', 1, 0));
        due("addPattern: b is no pattern for &", ELEMENT, () -> x.addPattern('&', 0, 1));
        due("addPattern: b is no pattern for |", ELEMENT, () -> x.addPattern('|', 0, -1));
        due("addPattern: b has no meaning for !", 1, () -> x.addPattern('!', 0, 99));
        due("addPattern: b has no meaning for f", 2, () -> x.addPattern('f', 1, -99));
        for (int i = 3; i < 24; i++) {
            due("addPattern: number " + i, i, () -> x.addPattern('&', 0, 1));
        }
        due("addPattern: a 25th", STATE, () -> x.addPattern('c', 0, 0));
        due("addPattern: a 25th of none", ELEMENT, () -> x.addPattern('f', 24, 0));
        due("addPattern: a 25th out of range", ARGUMENT, () -> x.addPattern('n', 6, 0));
    }

    private static void patternRange(char kind, int low, int high) {
        due("addPattern: " + kind + " " + low, 0, () -> new Weaversgate().addPattern(kind, low, -77));
        due("addPattern: " + kind + " " + high, 0, () -> new Weaversgate().addPattern(kind, high, 77));
        due("addPattern: " + kind + " below", ARGUMENT, () -> new Weaversgate().addPattern(kind, low - 1, 0));
        due("addPattern: " + kind + " above", ARGUMENT, () -> new Weaversgate().addPattern(kind, high + 1, 0));
    }

    private static void addAdvice() {
        Weaversgate x = new Weaversgate();
        due("addAdvice: no pattern", ELEMENT, () -> x.addAdvice(0, 'b', 0, 0, 0));
        due("addAdvice: no aspect, ahead of that", ARGUMENT, () -> x.addAdvice(4, 'b', 0, 0, 0));
        x.addPattern('c', 0, 0);
        due("addAdvice: aspect -1", ARGUMENT, () -> x.addAdvice(-1, 'b', 0, 0, 0));
        due("addAdvice: no kind", ARGUMENT, () -> x.addAdvice(0, 'c', 0, 0, 0));
        due("addAdvice: more too low", ARGUMENT, () -> x.addAdvice(0, 'r', 0, -100, 0));
        due("addAdvice: more too high", ARGUMENT, () -> x.addAdvice(0, 'r', 0, 100, 0));
        due("addAdvice: times too low", ARGUMENT, () -> x.addAdvice(0, 'r', 0, 0, -1));
        due("addAdvice: times too high", ARGUMENT, () -> x.addAdvice(0, 'r', 0, 0, 3));
        due("addAdvice: the ranges bind all kinds", ARGUMENT, () -> x.addAdvice(0, 'b', 0, 100, 0));
        due("addAdvice: the ranges bind all kinds", ARGUMENT, () -> x.addAdvice(0, 'f', 0, 0, 3));
        due("addAdvice: pattern -1", ELEMENT, () -> x.addAdvice(0, 'b', -1, 0, 0));
        due("addAdvice: pattern 1", ELEMENT, () -> x.addAdvice(0, 'b', 1, 0, 0));
        due("addAdvice: the first", 0, () -> x.addAdvice(0, 'r', 0, -99, 0));
        due("addAdvice: it is on", true, () -> x.turn(0, true));
        due("addAdvice: the second", 1, () -> x.addAdvice(3, 'r', 0, 99, 2));
        for (int i = 2; i < 12; i++) {
            int number = i;
            due("addAdvice: number " + i, i, () -> x.addAdvice(1, "baxf".charAt(number % 4), 0, 0, 0));
        }
        due("addAdvice: a 13th", STATE, () -> x.addAdvice(0, 'b', 0, 0, 0));
        due("addAdvice: a 13th without pattern", ELEMENT, () -> x.addAdvice(0, 'b', 1, 0, 0));
    }

    private static void turn() {
        Weaversgate x = withClass();
        steps(x, 0, 0, "n 1 0");
        patterns(x, "c 0 0");
        due("turn: none", ELEMENT, () -> x.turn(0, true));
        x.addAdvice(0, 'b', 0, 0, 0);
        due("turn: -1", ELEMENT, () -> x.turn(-1, true));
        due("turn: 1", ELEMENT, () -> x.turn(1, true));
        ends("turn: on", x, 0, 0, 1, "r 2 b0:1");
        due("turn: off, it was on", true, () -> x.turn(0, false));
        ends("turn: off", x, 0, 0, 1, "r 2");
        due("turn: off again, it was off", false, () -> x.turn(0, false));
        due("turn: on, it was off", false, () -> x.turn(0, true));
        ends("turn: on again", x, 0, 0, 1, "r 2 b0:1");
    }

    private static void precede() {
        Weaversgate x = new Weaversgate();
        due("precede: the same", ARGUMENT, () -> x.precede(2, 2, true));
        due("precede: -1", ARGUMENT, () -> x.precede(-1, 2, true));
        due("precede: 4", ARGUMENT, () -> x.precede(4, 2, true));
        due("precede: ahead of -1", ARGUMENT, () -> x.precede(2, -1, false));
        due("precede: ahead of 4", ARGUMENT, () -> x.precede(2, 4, false));
        due("precede: it was not told so", false, () -> x.precede(3, 0, true));
        due("precede: it was told so", true, () -> x.precede(3, 0, true));
        due("precede: not the other way", false, () -> x.precede(0, 3, false));
        due("precede: not any more", true, () -> x.precede(3, 0, false));
        due("precede: it is not told so", false, () -> x.precede(3, 0, false));
        due("precede: the order is as at first", 0, () -> x.aspectAt(0));
    }

    private static void isRing() {
        Weaversgate x = new Weaversgate();
        x.precede(0, 1, true);
        due("isRing: one alone", false, x::isRing);
        x.precede(1, 0, true);
        due("isRing: of two", true, x::isRing);
        x.precede(0, 1, false);
        due("isRing: not any more", false, x::isRing);
        x.precede(0, 2, true);
        x.precede(2, 3, true);
        due("isRing: a row", false, x::isRing);
        x.precede(3, 1, true);
        due("isRing: of four", true, x::isRing);
        x.precede(1, 0, false);
        due("isRing: a row again", false, x::isRing);
        due("isRing: in its order", 3, () -> x.aspectAt(2));
        x.precede(2, 0, true);
        due("isRing: behind none that is free", true, x::isRing);
        Weaversgate y = new Weaversgate();
        y.precede(2, 3, true);
        y.precede(3, 2, true);
        due("isRing: the last two alone", true, y::isRing);
    }

    private static String order(Weaversgate x) {
        return "" + x.aspectAt(0) + x.aspectAt(1) + x.aspectAt(2) + x.aspectAt(3);
    }

    private static void aspectAt() {
        Weaversgate x = new Weaversgate();
        due("aspectAt: at first", "0123", () -> order(x));
        x.precede(3, 0, true);
        due("aspectAt: the lowest that is free", "1230", () -> order(x));
        x.precede(2, 1, true);
        due("aspectAt: two of them", "2130", () -> order(x));
        x.precede(3, 2, true);
        due("aspectAt: again and again the lowest", "3021", () -> order(x));
        due("aspectAt: rank -1", ARGUMENT, () -> x.aspectAt(-1));
        due("aspectAt: rank 4", ARGUMENT, () -> x.aspectAt(4));
        x.precede(0, 3, true);
        due("aspectAt: a ring", STATE, () -> x.aspectAt(0));
        due("aspectAt: rank 4 and a ring", ARGUMENT, () -> x.aspectAt(4));
    }

    private static void places() {
        Weaversgate x = withClass();
        x.addClass(0);
        due("places: no body", 0, () -> x.places(0, 0));
        steps(x, 0, 0, "n 1 0");
        due("places: the run", 1, () -> x.places(0, 0));
        due("places: the body of the parent does not count", 0, () -> x.places(1, 0));
        steps(x, 0, 0, "t 0 0, c 0 0, g 0 0, s 0 0, h 0 0");
        due("places: one for each of four", 5, () -> x.places(0, 0));
        steps(x, 0, 0, "m 0 0, m 1 0");
        due("places: two for 'm'", 9, () -> x.places(0, 0));
        due("places: no class", INDEX, () -> x.places(2, 9));
        due("places: class -1", INDEX, () -> x.places(-1, 0));
        due("places: no method", ARGUMENT, () -> x.places(0, 6));
        due("places: method -1", ARGUMENT, () -> x.places(0, -1));
        x.dropBody(0, 0);
        due("places: dropped", 0, () -> x.places(0, 0));
    }

    /** The verdicts of the advice at all places of the body of a class for the method 0. */
    private static String verdicts(Weaversgate x, int type, int advice) {
        StringBuilder text = new StringBuilder();
        for (int place = 0; place < x.places(type, 0); place++) {
            text.append(x.match(type, 0, place, advice));
        }
        return text.toString();
    }

    /** An object with a body of all steps in the class 0, and an advice for each of the patterns. */
    private static Weaversgate withPlaces(String patterns) {
        Weaversgate x = withClass();
        x.addClass(-1);
        steps(x, 0, 0, "n 1 0, c 3 0, m 1 2, g 1 0, t 0 9, s 2 0, h 1 0");
        patterns(x, patterns);
        for (int i = 0; i < patterns.split(", ").length; i++) {
            x.addAdvice(0, 'b', i, 0, 0);
        }
        return x;
    }

    private static void matchOfKindsAndPlaces() {
        Weaversgate x = withPlaces("c 0 0, e 0 0, g 0 0, s 0 0, h 0 0, m 0 0, w 0 0, w 1 0");
        due("match: c", "nynynnn", () -> verdicts(x, 0, 0));
        due("match: e", "ynnnnnn", () -> verdicts(x, 0, 1));
        due("match: g", "nnnnynn", () -> verdicts(x, 0, 2));
        due("match: s", "nnnnnyn", () -> verdicts(x, 0, 3));
        due("match: h", "nnnnnny", () -> verdicts(x, 0, 4));
        due("match: m", "nnynnnn", () -> verdicts(x, 0, 5));
        due("match: w of it", "yyyyyyy", () -> verdicts(x, 0, 6));
        due("match: w of another", "nnnnnnn", () -> verdicts(x, 0, 7));
        x.turn(0, false);
        due("match: also of one that is off", "nynynnn", () -> verdicts(x, 0, 0));
        steps(x, 1, 0, "g 0 0");
        due("match: w of another, in its body", "yy", () -> verdicts(x, 1, 7));
        due("match: w of the class beside", "nn", () -> verdicts(x, 1, 6));
    }

    private static void matchOfNames() {
        Weaversgate x = withPlaces("n 0 0, n 1 0, n 2 0, n 3 0, n 5 0");
        due("match: n 0, the method and exceptions", "ynnnnnm", () -> verdicts(x, 0, 0));
        due("match: n 1, the class made and exceptions", "nnynynm", () -> verdicts(x, 0, 1));
        due("match: n 2, the method of the object made", "nnnynyn", () -> verdicts(x, 0, 2));
        due("match: n 3, above the handler", "nynnnnn", () -> verdicts(x, 0, 3));
        due("match: n 5", "nnnnnnn", () -> verdicts(x, 0, 4));
    }

    private static void matchOfClasses() {
        Weaversgate x = withClass();
        x.addClass(0);
        x.addClass(1);
        x.addClass(0);
        steps(x, 0, 0, "c 1 0, m 1 0, h 3 0");
        steps(x, 3, 0, "g 0 0");
        patterns(x, "t 0 0, t 1 0, t 2 0, t 3 0, t 4 0");
        for (int i = 0; i < 5; i++) {
            x.addAdvice(0, 'b', i, 0, 0);
        }
        due("match: t, all are below", "yyyyy", () -> verdicts(x, 0, 0));
        due("match: t, some are, the one made is", "mmyym", () -> verdicts(x, 0, 1));
        due("match: t, some are, the one made is not", "mmnnm", () -> verdicts(x, 0, 2));
        due("match: t, those with another body are not", "nnnnn", () -> verdicts(x, 0, 3));
        due("match: t, no such class", "nnnnn", () -> verdicts(x, 0, 4));
        due("match: t, a body of one class alone", "yy", () -> verdicts(x, 3, 3));
        due("match: t, above it", "yy", () -> verdicts(x, 3, 0));
        due("match: t, beside it", "nn", () -> verdicts(x, 3, 1));
        x.addClass(0);
        due("match: t, a class that came behind", "mmnnm", () -> verdicts(x, 0, 4));
        x.dropBody(3, 0);
        due("match: t, it finds the body above now", "mmnnm", () -> verdicts(x, 0, 3));
        steps(x, 1, 0, "n 1 0");
        due("match: t, two have a body of their own", "nnyyn", () -> verdicts(x, 0, 1));
    }

    private static void matchOfOthers() {
        // 0 is 'n', 1 'y', 2 'm' at the run of the body.
        Weaversgate x = withPlaces("c 0 0, e 0 0, v 0 0, f 0 0, f 1 0, f 2 0, ! 0 0, ! 1 0, ! 2 0");
        due("match: v", "mmmmmmm", () -> verdicts(x, 0, 2));
        due("match: f", "mymymmm", () -> verdicts(x, 0, 3));
        due("match: f of y", "ymmmmmm", () -> verdicts(x, 0, 4));
        due("match: f of m", "mmmmmmm", () -> verdicts(x, 0, 5));
        due("match: ! of n", 'y', () -> x.match(0, 0, 0, 6));
        due("match: ! of y", 'n', () -> x.match(0, 0, 0, 7));
        due("match: ! of m", 'm', () -> x.match(0, 0, 0, 8));
        String both = "nnnnymnmm";
        String either = "nymyyymym";
        for (int a = 0; a < 3; a++) {
            for (int b = 0; b < 3; b++) {
                Weaversgate y = withPlaces("c 0 0, e 0 0, v 0 0, & " + a + " " + b + ", | " + a + " " + b);
                due("match: & of " + a + " and " + b, both.charAt(a * 3 + b), () -> y.match(0, 0, 0, 3));
                due("match: | of " + a + " and " + b, either.charAt(a * 3 + b), () -> y.match(0, 0, 0, 4));
            }
        }
    }

    private static void matchRefuses() {
        Weaversgate x = withPlaces("c 0 0");
        due("match: no class", INDEX, () -> x.match(2, 9, 9, 9));
        due("match: class -1", INDEX, () -> x.match(-1, 0, 0, 0));
        due("match: no method", ARGUMENT, () -> x.match(0, 6, 0, 9));
        due("match: method -1", ARGUMENT, () -> x.match(0, -1, 0, 0));
        due("match: no place", ARGUMENT, () -> x.match(0, 0, 7, 9));
        due("match: place -1", ARGUMENT, () -> x.match(0, 0, -1, 0));
        due("match: no body", ARGUMENT, () -> x.match(0, 1, 0, 0));
        due("match: no advice", ELEMENT, () -> x.match(0, 0, 6, 1));
        due("match: advice -1", ELEMENT, () -> x.match(0, 0, 0, -1));
    }

    private static void residuesAndWoven() {
        Weaversgate x = withClass();
        patterns(x, "v 0 0, c 0 0");
        x.addAdvice(0, 'b', 0, 0, 0);
        due("residues: no place", 0, x::residues);
        due("woven: no place", 0, x::woven);
        steps(x, 0, 0, "c 1 0, m 0 1");
        steps(x, 0, 5, "n 1 0");
        due("residues: five places", 5, x::residues);
        due("woven: none is sure", 0, x::woven);
        x.addAdvice(0, 'x', 1, 0, 0);
        due("residues: the calls are sure", 5, x::residues);
        due("woven: two calls", 2, x::woven);
        x.turn(0, false);
        due("residues: it is off", 0, x::residues);
        due("woven: the other is on", 2, x::woven);
        x.turn(1, false);
        due("woven: all are off", 0, x::woven);
        x.turn(0, true);
        x.dropBody(0, 0);
        due("residues: one place is left", 1, x::residues);
    }

    private static void runOfSteps() {
        Weaversgate x = withClass();
        x.addClass(0);
        steps(x, 0, 0, "n 7 0, n -2 0, t 0 10");
        ends("run: adds", x, 0, 0, 5, "r 10");
        ends("run: the body of the parent", x, 1, 0, -99, "r -94");
        ends("run: not greater, so nothing is thrown", x, 1, 0, 5, "r 10");
        ends("run: throws", x, 1, 0, 6, "x 0");
        steps(x, 0, 1, "n 1 0, c 2 0, n 99 0");
        steps(x, 0, 2, "n 10 0");
        steps(x, 1, 2, "n 20 0");
        ends("run: the value becomes the result", x, 0, 1, 0, "r 110");
        ends("run: the body of the class of the object", x, 1, 1, 0, "r 120");
        Weaversgate z = withClass();
        steps(z, 0, 0, "s 0 0, g 0 0");
        patterns(z, "e 0 0");
        for (int i = 0; i < 4; i++) {
            z.addAdvice(0, 'r', 0, 0, 2);
        }
        ends("run: doubles 16 times", z, 0, 0, 1, "r 65536 " + "r0:1 r1:1 r2:1 r3:1 r3:4 r2:16 r3:16 r3:64 "
            + "r1:256 r2:256 r3:256 r3:1024 r2:4096 r3:4096 r3:16384");
        z.addAdvice(0, 'r', 0, 0, 2);
        z.run(0, 0, 1);
        due("run: doubles 32 times, ints go round", 0, z::result);
        z.dropBody(0, 0);
        steps(z, 0, 0, "s 0 0, g 0 0, n 99 0");
        z.run(0, 0, 1);
        due("run: adds too, ints go round", (int) ((1L << 32) + 99 * ((1L << 32) - 1)), z::result);
    }

    private static void runOfFields() {
        Weaversgate x = withClass();
        steps(x, 0, 0, "s 0 0, n 1 0, s 3 0, n 1 0, g 0 0, g 3 0, g 1 0");
        ends("run: fields", x, 0, 0, 10, "r 33");
        ends("run: fields are 0 at first in each run", x, 0, 0, 1, "r 6");
        steps(x, 0, 1, "s 2 0, c 2 0");
        steps(x, 0, 2, "n 1 0, g 2 0");
        ends("run: a call is of the same object", x, 0, 1, 7, "r 15");
        patterns(x, "s 0 0, g 0 0");
        x.addAdvice(0, 'r', 0, 5, 0);
        ends("run: an 's' that is not gone on with", x, 0, 1, 7, "r 8 r0:7");
        x.turn(0, false);
        x.addAdvice(0, 'r', 0, 5, 2);
        ends("run: an 's' done twice, its result is its value", x, 0, 1, 7, "r 35 r1:7");
        x.turn(1, false);
        x.addAdvice(0, 'r', 1, 1, 2);
        ends("run: a 'g' done twice", x, 0, 1, 7, "r 24 r2:8");
        x.turn(2, false);
        x.addAdvice(0, 'r', 1, 1, 0);
        ends("run: a 'g' not done has the value as its result", x, 0, 1, 7, "r 8 r3:8");
    }

    private static void runOfMaking() {
        Weaversgate x = withClass();
        x.addClass(-1);
        steps(x, 0, 0, "s 0 0, n 1 0, m 1 2, g 0 0");
        steps(x, 1, 2, "g 0 0, s 0 0, n 10 0, c 3 0");
        steps(x, 1, 3, "g 0 0");
        // 5 in a field of the first object, 6 in one of the other: 6 + 10 + 6, then + 5.
        ends("run: the object made has fields of its own", x, 0, 0, 5, "r 27");
        patterns(x, "m 0 0, t 1 0, & 0 1");
        x.addAdvice(0, 'r', 2, 10, 1);
        ends("run: the call gets the result of the point", x, 0, 0, 5, "r 47 r0:6");
        x.turn(0, false);
        x.addAdvice(0, 'r', 2, 10, 0);
        ends("run: the object is made whatever advice does", x, 0, 0, 5, "r 27 r1:6");
        x.turn(1, false);
        x.addAdvice(0, 'r', 2, 10, 2);
        ends("run: twice its more", x, 0, 0, 5, "r 67 r2:6");
        Weaversgate y = withClass();
        y.addClass(-1);
        steps(y, 0, 0, "m 1 4, n 1 0");
        steps(y, 0, 4, "n 50 0");
        ends("run: the class made finds no body", y, 0, 0, 5, "x 4");
        steps(y, 1, 4, "n 9 0");
        ends("run: it has one now", y, 0, 0, 5, "r 15");
        patterns(y, "m 0 0, n 1 0, & 0 1, n 4 0, c 0 0, & 4 3, t 1 0, & 5 6");
        y.addAdvice(0, 'b', 2, 0, 0);
        y.addAdvice(0, 'b', 7, 0, 0);
        ends("run: names and classes of 'm' and its call", y, 0, 0, 5, "r 15 b0:5 b1:5");
    }

    private static void runOfExceptions() {
        Weaversgate x = withClass();
        ends("run: no body is found", x, 0, 0, 5, "x 4");
        steps(x, 0, 0, "n 1 0, c 1 0, n 1 0");
        steps(x, 0, 1, "t 3 5, n 1 0");
        ends("run: nothing is thrown", x, 0, 0, 4, "r 7");
        ends("run: a called body throws", x, 0, 0, 5, "x 3");
        steps(x, 0, 2, "h 3 0, c 5 0, n 1 0");
        ends("run: no handler takes 4", x, 0, 2, 5, "x 4");
        steps(x, 0, 3, "t 1 0, h 3 0, n 1 0");
        ends("run: a handler behind the step is not open", x, 0, 3, 5, "x 1");
        ends("run: and does nothing else", x, 0, 3, 0, "r 1");
        steps(x, 0, 4, "h 3 0, c 5 0");
        steps(x, 0, 5, "t 2 -50, n 1 0");
        ends("run: handles what is thrown below", x, 0, 4, 5, "r 0");
    }

    private static void runOfHandlers() {
        Weaversgate x = withClass();
        patterns(x, "h 0 0, n 2 0, n 1 0, w 0 0, v -1 0, v 0 0");
        for (int i = 0; i < 6; i++) {
            x.addPattern('&', 0, i);
        }
        x.addAdvice(0, 'b', 7, 0, 0);
        x.addAdvice(0, 'b', 8, 0, 0);
        steps(x, 0, 0, "h 2 0, h 0 0, t 2 9, n 5 0");
        ends("run: the last one that takes it", x, 0, 0, 10, "r 5 b0:0");
        ends("run: nothing to take", x, 0, 0, 9, "r 14");
        steps(x, 0, 1, "h 0 0, h 1 0, t 2 9");
        ends("run: none takes what is greater", x, 0, 1, 10, "x 2");
        steps(x, 0, 2, "h 1 0, t 1 9, n 20 0, t 1 9, n 3 0");
        ends("run: a handler stays open", x, 0, 2, 10, "r 3 b1:0 b1:0");
        x.addAdvice(1, 'r', 9, 40, 1);
        ends("run: the value is the result of its point", x, 0, 2, 10, "r 43 b1:0 r2:0 b1:0 r2:0");
        x.addAdvice(2, 'f', 10, 0, 0);
        x.addAdvice(2, 'f', 11, 0, 0);
        x.turn(2, false);
        ends("run: the value of its point is 0", x, 0, 2, 10, "r 3 b1:0 f3:0 b1:0 f3:0");
        Weaversgate y = withClass();
        // The place of 'h' is that of the handler: the last one can take 3, the first one cannot.
        steps(y, 0, 0, "h 0 0, t 0 5, n 9 0, h 3 0, t 3 5");
        patterns(y, "n 3 0, h 0 0, & 0 1");
        y.addAdvice(0, 'b', 2, 0, 0);
        y.run(0, 0, 10);
        due("run: asks by the place of the handler", 2, y::asked);
        due("run: and acts there", "r 0 b0:0", () -> ended(y, y.run(0, 0, 10)));
        Weaversgate z = withClass();
        steps(z, 0, 0, "h 3 0, c 1 0, n 1 0");
        steps(z, 0, 1, "h 0 0, t 1 0");
        ends("run: the handler of the run that called", z, 0, 0, 5, "r 1");
        steps(z, 0, 2, "h 3 0, m 0 1, n 2 0");
        ends("run: a step 'm' that throws", z, 0, 2, 5, "r 2");
    }

    private static void runOfAdvice() {
        Weaversgate x = withClass();
        steps(x, 0, 0, "n 2 0, t 3 50");
        patterns(x, "e 0 0");
        x.addAdvice(0, 'b', 0, 50, 2);
        x.addAdvice(0, 'a', 0, 50, 2);
        x.addAdvice(0, 'x', 0, 50, 2);
        x.addAdvice(0, 'f', 0, 50, 2);
        ends("run: behind a result, the inner one first", x, 0, 0, 5, "r 7 b0:5 f3:7 a1:7");
        ends("run: behind an exception", x, 0, 0, 49, "x 3 b0:49 f3:3 x2:3");
        patterns(x, "c 0 0, | 0 1");
        x.addAdvice(0, 'b', 2, 0, 0);
        ends("run: at a call and in it", x, 0, 0, 5, "r 7 b4:5 b0:5 b4:5 f3:7 a1:7");
    }

    private static void runOfAround() {
        Weaversgate x = withClass();
        steps(x, 0, 0, "n 2 0, t 1 90");
        patterns(x, "e 0 0, c 0 0");
        x.addAdvice(0, 'r', 0, 10, 0);
        ends("run: goes on not at all", x, 0, 0, 5, "r 5 r0:5");
        x.turn(0, false);
        x.addAdvice(0, 'r', 0, 10, 1);
        ends("run: goes on once", x, 0, 0, 5, "r 17 r1:5");
        x.turn(1, false);
        x.addAdvice(0, 'r', 0, 10, 2);
        ends("run: goes on twice", x, 0, 0, 5, "r 29 r2:5");
        ends("run: goes on twice, the second time with the result", x, 0, 0, -99, "r -75 r2:-99");
        x.addAdvice(0, 'b', 0, 0, 0);
        ends("run: what is inside acts each time", x, 0, 0, 5, "r 29 r2:5 b3:15 b3:27");
        x.addAdvice(0, 'r', 0, -1, 2);
        ends("run: around in around", x, 0, 0, 5, "r 29 r2:5 b3:15 r4:15 b3:27 r4:27");
        x.turn(4, false);
        x.addAdvice(0, 'f', 0, 0, 0);
        ends("run: the first one throws", x, 0, 0, 80, "x 1 r2:80 b3:90 f5:1");
        ends("run: the second one throws", x, 0, 0, 70, "x 1 r2:70 b3:80 f5:82 b3:92 f5:1");
        due("run: a call and two runs of the body", 2, x::points);
        x.addAdvice(0, 'r', 1, 0, 2);
        x.run(0, 0, 5);
        due("run: two calls of the outside go on, each has a run of the body", 3, x::points);
        due("run: of which each goes on twice", "r 53 r6:5 r2:5 b3:15 f5:17 b3:27 f5:29 r2:29 b3:39 f5:41 b3:51 f5:53",
            () -> ended(x, x.run(0, 0, 5)));
    }

    private static void runOfBehind() {
        Weaversgate x = withClass();
        steps(x, 0, 0, "h 3 0, c 1 0, n 1 0");
        steps(x, 0, 1, "n 1 0, t 2 5");
        patterns(x, "n 1 0, c 0 0, & 0 1, h 0 0");
        x.addAdvice(0, 'a', 2, 0, 0);
        x.addAdvice(0, 'x', 2, 0, 0);
        x.addAdvice(0, 'f', 2, 0, 0);
        x.addAdvice(0, 'f', 3, 0, 0);
        ends("run: a call that has a result", x, 0, 0, 4, "r 6 f2:5 a0:5");
        ends("run: a call that throws", x, 0, 0, 5, "r 1 f2:2 x1:2 f3:0");
        x.dropBody(0, 1);
        ends("run: a call of no body", x, 0, 0, 5, "x 4 f2:4 x1:4");
    }

    private static void runOfOrder() {
        Weaversgate x = withClass();
        steps(x, 0, 0, "n 1 0");
        patterns(x, "e 0 0");
        x.addAdvice(3, 'b', 0, 0, 0);
        x.addAdvice(1, 'b', 0, 0, 0);
        x.addAdvice(0, 'r', 0, 1, 1);
        x.addAdvice(1, 'b', 0, 0, 0);
        x.addAdvice(0, 'b', 0, 0, 0);
        ends("run: by aspects, then by numbers", x, 0, 0, 5, "r 7 r2:5 b4:6 b1:6 b3:6 b0:6");
        x.precede(3, 0, true);
        ends("run: in the order told", x, 0, 0, 5, "r 7 b1:5 b3:5 b0:5 r2:5 b4:6");
        x.precede(3, 1, true);
        ends("run: and in another one", x, 0, 0, 5, "r 7 b0:5 r2:5 b4:6 b1:6 b3:6");
        x.precede(3, 1, false);
        x.precede(3, 0, false);
        ends("run: and as at first", x, 0, 0, 5, "r 7 r2:5 b4:6 b1:6 b3:6 b0:6");
    }

    /** The trace of 'b' advice for one pattern alone, the last one of the patterns. */
    private static void acts(String patterns, String end) {
        Weaversgate x = withClass();
        x.addClass(0);
        steps(x, 0, 0, "s 1 0, n 1 0, c 1 0, m 0 1, h 2 0, t 1 0");
        steps(x, 0, 1, "g 1 0, n 1 0");
        patterns(x, patterns);
        x.addAdvice(0, 'b', patterns.split(", ").length - 1, 0, 0);
        ends("run: pattern " + patterns, x, 1, 0, 4, end);
        due("run: sound with " + patterns, true, x::isSound);
    }

    private static void runOfPatterns() {
        // The points: c 4, e 4, s 4, c 5, e 5, g 5, m 10, c 10, e 10, g 10, h 0.
        acts("c 0 0", "r 0 b0:4 b0:5 b0:10");
        acts("e 0 0", "r 0 b0:4 b0:5 b0:10");
        acts("s 0 0", "r 0 b0:4");
        acts("g 0 0", "r 0 b0:5 b0:10");
        acts("m 0 0", "r 0 b0:10");
        acts("h 0 0", "r 0 b0:0");
        acts("n 0 0", "r 0 b0:4 b0:4 b0:10");
        acts("n 1 0", "r 0 b0:4 b0:5 b0:5 b0:5 b0:10 b0:10 b0:10 b0:0");
        acts("t 1 0", "r 0 b0:4 b0:4 b0:4 b0:5 b0:5 b0:5 b0:0");
        acts("t 2 0", "r 0");
        acts("w 0 0", "r 0 b0:4 b0:4 b0:5 b0:5 b0:5 b0:10 b0:10 b0:10 b0:10 b0:0");
        acts("w 1 0", "r 0");
        acts("w 0 0, ! 0 0", "r 0 b0:4");
        acts("v 5 0", "r 0 b0:10 b0:10 b0:10 b0:10");
        acts("v 10 0", "r 0");
        acts("v -1 0, h 0 0, & 0 1", "r 0 b0:0");
        acts("v 5 0, ! 0 0", "r 0 b0:4 b0:4 b0:4 b0:5 b0:5 b0:5 b0:0");
        acts("v 5 0, h 0 0, | 0 1", "r 0 b0:10 b0:10 b0:10 b0:10 b0:0");
        acts("v 4 0, c 0 0, & 0 1", "r 0 b0:5 b0:10");
        acts("m 0 0, f 0 0", "r 0 b0:10");
        acts("v 5 0, c 0 0, & 0 1, f 2 0", "r 0 b0:10 b0:10 b0:10");
    }

    private static void runOfWhatGoesOn() {
        // 'f' holds for what goes on at its beginning, not for what has ended.
        acts("n 1 0, c 0 0, & 0 1, f 2 0, ! 3 0", "r 0 b0:4 b0:4 b0:4 b0:10 b0:0");
        acts("t 1 0, f 0 0, ! 1 0", "r 0");
        acts("e 0 0, f 0 0, ! 1 0, f 2 0, g 0 0, & 3 4", "r 0 b0:5 b0:10");
        acts("g 0 0, f 0 0, e 0 0, & 1 2", "r 0");
        // 'f' of 'f': what held at the beginning of a point that goes on.
        acts("s 0 0, f 0 0, f 1 0", "r 0 b0:4");
        acts("v 4 0, ! 0 0, c 0 0, & 1 2, f 3 0, ! 4 0", "r 0");
        acts("w 0 0, ! 0 0, f 1 0, e 0 0, & 2 3", "r 0 b0:4 b0:5 b0:10");
    }

    private static void runGivenUp() {
        Weaversgate deep = withClass();
        steps(deep, 0, 0, "c 0 0");
        due("run: goes on forever", 'l', () -> deep.run(0, 0, 0));
        due("run: 20 go on", 20, deep::points);
        Weaversgate twenty = withClass();
        steps(twenty, 0, 0, "n 1 0, t 0 9, c 0 0");
        due("run: ten calls with their bodies", 'x', () -> twenty.run(0, 0, 0));
        due("run: 20 may go on", 20, twenty::points);
        Weaversgate nine = withClass();
        steps(nine, 0, 0, "n 1 0, g 0 0, t 0 8, c 0 0");
        due("run: nine of them, each with a 'g' that ends", 'x', () -> nine.run(0, 0, 0));
        due("run: 27 began", 27, nine::points);
        Weaversgate beyond = withClass();
        steps(beyond, 0, 0, "n 1 0, g 0 0, t 0 9, c 0 0");
        due("run: in the tenth body a 'g' would be the 21st", 'l', () -> beyond.run(0, 0, 0));
        due("run: 29 began", 29, beyond::points);
        due("run: no result", STATE, beyond::result);

        Weaversgate many = withClass();
        steps(many, 0, 0, "c 1 0, c 1 0, c 1 0, c 1 0, c 1 0, c 1 0, c 1 0, c 1 0");
        steps(many, 0, 1, "g 0 0, g 0 0, g 0 0, g 0 0, g 0 0, g 0 0, g 0 0, n 1 0");
        due("run: 2 + 8 * 9 points", 'r', () -> many.run(0, 0, 0));
        due("run: 74 points", 74, many::points);
        steps(many, 0, 2, "c 0 0, g 0 0, c 3 0, g 0 0, n 1 0");
        steps(many, 0, 3, "c 1 0, c 1 0, c 1 0, c 1 0, g 0 0, g 0 0, g 0 0, g 0 0");
        due("run: 2 + 74 + 1 + 2 + 4 * 9 + 4 + 1 points", 'r', () -> many.run(0, 2, 0));
        due("run: 120 may begin", 120, many::points);
        steps(many, 0, 2, "g 0 0");
        due("run: a 121st may not", 'l', () -> many.run(0, 2, 0));
        due("run: 120 began", 120, many::points);
        due("run: nor asking all", 'l', () -> many.runAsking(0, 2, 0));
        due("run: 120 began, asking all", 120, many::points);
        many.dropBody(0, 2);
        steps(many, 0, 2, "c 0 0, g 0 0, c 3 0, g 0 0, m 0 4, n 1 0");
        due("run: nor one of 'm'", 'l', () -> many.run(0, 2, 0));
        due("run: 120 began, and not 'm'", 120, many::points);
        Weaversgate making = withClass();
        steps(making, 0, 0, "m 0 0");
        due("run: makes forever", 'l', () -> making.run(0, 0, 0));
        due("run: 20 go on, and ten 'm' have ended but one", 20 + 9, making::points);
        fourHundred();
        aTurnTooMany('b');
        aTurnTooMany('r');
    }

    /** Exactly 400 may act: eight times 50, and one more may not. */
    private static void fourHundred() {
        Weaversgate x = withClass();
        steps(x, 0, 0, "g 0 0, g 0 0, g 0 0, g 0 0, g 0 0, g 0 0, g 0 0, g 0 0");
        patterns(x, "g 0 0, e 0 0");
        x.addAdvice(0, 'b', 0, 0, 0);
        x.addAdvice(0, 'f', 0, 0, 0);
        x.addAdvice(0, 'a', 0, 0, 0);
        x.addAdvice(0, 'r', 0, 0, 2);
        x.addAdvice(0, 'r', 0, 0, 2);
        x.addAdvice(0, 'r', 0, 0, 2);
        x.addAdvice(0, 'b', 0, 0, 0);
        x.addAdvice(0, 'b', 0, 0, 0);
        x.addAdvice(0, 'a', 0, 0, 0);
        x.addAdvice(0, 'f', 0, 0, 0);
        x.addAdvice(0, 'b', 0, 0, 0);
        // 3 + 1 + 2 + 4 + 8 * 5 = 50.
        due("run: 400 may act", 'r', () -> x.run(0, 0, 0));
        due("run: 400 acted", 400, x::traceLength);
        due("run: asking, too", 'r', () -> x.runAsking(0, 0, 0));
        x.addAdvice(0, 'f', 1, 0, 0);
        due("run: a 401st may not, at the end", 'l', () -> x.run(0, 0, 0));
        due("run: 400 acted", 400, x::traceLength);
        due("run: the trace stays", 'f', () -> x.traceKind(399));
        due("run: the trace ends there", INDEX, () -> x.traceKind(400));
        due("run: its sum", sumOf(x), x::traceSum);
        due("run: it is sound", true, x::isSound);
    }

    /** The 401st to act would be one that acts ahead of the last point. */
    private static void aTurnTooMany(char kind) {
        Weaversgate x = withClass();
        steps(x, 0, 0, "g 0 0, g 0 0, g 0 0, g 0 0, g 0 0, g 0 0, n 1 0, c 1 0");
        steps(x, 0, 1, "n 1 0");
        patterns(x, "g 0 0, n 1 0, c 0 0, & 1 2");
        for (int i = 0; i < 5; i++) {
            x.addAdvice(0, 'r', 0, 0, 2);
        }
        x.addAdvice(0, 'b', 0, 0, 0);
        // 6 * (31 + 32) = 378, and 16 at the call of the method 1, 8 more with one more inside.
        x.addAdvice(1, 'b', 3, 0, 0);
        x.addAdvice(1, 'r', 3, 0, 2);
        x.addAdvice(1, 'r', 3, 0, 2);
        x.addAdvice(1, 'r', 3, 0, 2);
        x.addAdvice(1, 'r', 3, 0, 1);
        due("run: 378 + 1 + 1 + 2 + 4 + 8 act", 'r', () -> x.run(0, 0, 0));
        due("run: 394 acted", 394, x::traceLength);
        x.addAdvice(1, kind, 3, 0, 1);
        due("run: 402 would act, the last ones ahead of the point", 'l', () -> x.run(0, 0, 0));
        due("run: 400 acted", 400, x::traceLength);
        due("run: no result", STATE, x::result);
    }

    private static long sumOf(Weaversgate x) {
        long sum = 0;
        for (int i = 0; i < x.traceLength(); i++) {
            sum += (i + 1L) * (x.traceValue(i) + 131L * x.traceAdvice(i));
        }
        return sum;
    }

    /** All that an object can hold, and more runs than it can make objects in one. */
    private static void allThatThereCanBe() {
        Weaversgate x = new Weaversgate();
        for (int type = 0; type < 6; type++) {
            x.addClass(type - 1);
        }
        steps(x, 0, 3, "n 1 0");
        due("all: finds five above", 0, () -> x.finds(5, 3));
        patterns(x, "t 0 0, t 5 0, v 0 0");
        for (int i = 3; i < 24; i++) {
            x.addPattern('!', i - 1, 0);
        }
        x.addAdvice(0, 'b', 0, 0, 0);
        x.addAdvice(0, 'b', 1, 0, 0);
        for (int i = 2; i < 12; i++) {
            x.addAdvice(0, 'a', 23, 0, 0);
        }
        due("all: the lowest is below the highest", 'y', () -> x.match(0, 3, 0, 0));
        due("all: one of six is the lowest", 'm', () -> x.match(0, 3, 0, 1));
        ends("all: at the call and at the body", x, 5, 3, -1,
            "r 0 b0:-1 b1:-1 b0:-1 b1:-1" + " a11:0 a10:0 a9:0 a8:0 a7:0 a6:0 a5:0 a4:0 a3:0 a2:0".repeat(2));
        for (int type = 0; type < 6; type++) {
            for (int method = 0; method < 6; method++) {
                x.dropBody(type, method);
                for (int step = 0; step < 8; step++) {
                    x.addStep(type, method, 'm', 5, method);
                }
            }
        }
        due("all: 17 places in a body", 17, () -> x.places(5, 5));
        due("all: 612 places, ten advices", 6120, x::residues);
        // 't' 0 is sure at all of them, 't' 5 in the body of the lowest one and for what is made.
        due("all: sure are the others", 612 + 612 - 30, x::woven);
        due("all: none but these", (1224f) / 7344f, x::sureShare);
        due("all: eight steps", 8.0, x::meanSteps);
        due("all: too deep", 'l', () -> x.run(5, 5, 0));
        due("all: too deep, asking", 'l', () -> x.runAsking(5, 5, 0));
        due("all: sound", true, x::isSound);
        x.dropBody(5, 5);
        steps(x, 5, 5, "m 5 4, m 5 4, m 5 4, m 5 4");
        x.dropBody(5, 4);
        steps(x, 5, 4, "n 1 0, g 0 0, s 0 0, s 1 0, s 2 0, s 3 0");
        for (int i = 0; i < 12; i++) {
            x.turn(i, false);
        }
        for (int i = 0; i < 150; i++) {
            due("all: the run " + i, "r 4", () -> ended(x, x.run(5, 5, 0)));
        }
    }

    private static void runRefuses() {
        Weaversgate x = withClass();
        steps(x, 0, 0, "n 1 0");
        due("run: no class", INDEX, () -> x.run(1, 9, 100));
        due("run: class -1", INDEX, () -> x.run(-1, 0, 0));
        due("run: no method", ARGUMENT, () -> x.run(0, 6, 0));
        due("run: method -1", ARGUMENT, () -> x.run(0, -1, 0));
        due("run: value 100", ARGUMENT, () -> x.run(0, 0, 100));
        due("run: value -100", ARGUMENT, () -> x.run(0, 0, -100));
        due("run: value 99", 'r', () -> x.run(0, 0, 99));
        due("run: value -99", 'r', () -> x.run(0, 0, -99));
        x.precede(0, 1, true);
        x.precede(1, 0, true);
        due("run: a ring", STATE, () -> x.run(0, 0, 0));
        due("run: a ring and value 100", ARGUMENT, () -> x.run(0, 0, 100));
        due("run: a ring and no class", INDEX, () -> x.run(1, 0, 0));
        due("run: the last one stays", -98, x::result);
    }

    private static void runAsking() {
        Weaversgate x = withClass();
        steps(x, 0, 0, "n 1 0");
        due("runAsking: no class", INDEX, () -> x.runAsking(1, 9, 100));
        due("runAsking: no method", ARGUMENT, () -> x.runAsking(0, 6, 0));
        due("runAsking: method -1", ARGUMENT, () -> x.runAsking(0, -1, 0));
        due("runAsking: value 100", ARGUMENT, () -> x.runAsking(0, 0, 100));
        due("runAsking: value -100", ARGUMENT, () -> x.runAsking(0, 0, -100));
        due("runAsking: a result", 'r', () -> x.runAsking(0, 0, 99));
        due("runAsking: the result", 100, x::result);
        due("runAsking: an exception", 'x', () -> x.runAsking(0, 1, 99));
        due("runAsking: the exception", 4, x::result);
        x.precede(2, 1, true);
        x.precede(1, 2, true);
        due("runAsking: a ring", STATE, () -> x.runAsking(0, 0, 0));
        due("runAsking: a ring and value -100", ARGUMENT, () -> x.runAsking(0, 0, -100));
    }

    private static void result() {
        Weaversgate x = withClass();
        due("result: no run", STATE, x::result);
        steps(x, 0, 0, "t 2 0, n 1 0");
        steps(x, 0, 1, "c 1 0");
        x.run(0, 0, -1);
        due("result: of a run", 0, x::result);
        x.run(0, 0, 1);
        due("result: an exception", 2, x::result);
        x.runAsking(0, 0, -99);
        due("result: of either kind", -98, x::result);
        x.run(0, 1, 0);
        due("result: given up", STATE, x::result);
        x.run(0, 0, 0);
        due("result: of the last one", 1, x::result);
    }

    private static void pointsAndAsked() {
        Weaversgate x = withClass();
        due("points: no run", 0, x::points);
        due("asked: no run", 0, x::asked);
        x.run(0, 0, 0);
        due("points: the call from outside", 1, x::points);
        due("asked: no advice", 0, x::asked);
        steps(x, 0, 0, "c 1 0, m 0 1, h 0 0, t 0 -1");
        steps(x, 0, 1, "s 0 0, g 0 0");
        x.run(0, 0, 0);
        due("points: c e, c e s g, m, c e s g, h", 12, x::points);
        patterns(x, "c 0 0, v 99 0, s 0 0, f 2 0");
        x.addAdvice(0, 'b', 0, 0, 0);
        x.addAdvice(1, 'b', 1, 0, 0);
        x.addAdvice(2, 'b', 3, 0, 0);
        x.run(0, 0, 0);
        // All three outside, 'v' at eleven places, 'f' at all of them but the two 's'.
        due("asked: woven", 3 + 11 + 9, x::asked);
        x.runAsking(0, 0, 0);
        due("asked: all", 36, x::asked);
        x.turn(1, false);
        x.run(0, 0, 0);
        due("asked: one is off", 2 + 9, x::asked);
        x.runAsking(0, 0, 0);
        due("asked: all but one", 24, x::asked);
        due("points: asking makes no other points", 12, x::points);
        x.isSound();
        due("points: the last run stays", 12, x::points);
        due("asked: the last run stays", 24, x::asked);
    }

    private static void trace() {
        Weaversgate x = withClass();
        due("traceLength: no run", 0, x::traceLength);
        due("traceKind: no run", INDEX, () -> x.traceKind(0));
        due("traceValue: no run", INDEX, () -> x.traceValue(0));
        due("traceAdvice: no run", INDEX, () -> x.traceAdvice(0));
        steps(x, 0, 0, "n 3 0");
        patterns(x, "e 0 0, h 0 0");
        x.addAdvice(0, 'b', 1, 0, 0);
        x.addAdvice(0, 'f', 0, 0, 0);
        x.addAdvice(0, 'r', 0, 7, 1);
        x.run(0, 0, 20);
        due("traceLength: two", 2, x::traceLength);
        due("traceKind: the first", 'r', () -> x.traceKind(0));
        due("traceValue: the first", 20, () -> x.traceValue(0));
        due("traceAdvice: the first", 2, () -> x.traceAdvice(0));
        due("traceKind: the second", 'f', () -> x.traceKind(1));
        due("traceValue: the second", 30, () -> x.traceValue(1));
        due("traceAdvice: the second", 1, () -> x.traceAdvice(1));
        for (int index : new int[] {-1, 2, 400, Integer.MAX_VALUE, Integer.MIN_VALUE}) {
            due("traceKind: " + index, INDEX, () -> x.traceKind(index));
            due("traceValue: " + index, INDEX, () -> x.traceValue(index));
            due("traceAdvice: " + index, INDEX, () -> x.traceAdvice(index));
        }
        x.turn(1, false);
        due("traceLength: the last run, whatever comes behind", 2, x::traceLength);
        x.run(0, 0, 20);
        due("traceLength: one", 1, x::traceLength);
        due("traceKind: of the run ahead", INDEX, () -> x.traceKind(1));
    }

    private static void traceSum() {
        Weaversgate x = withClass();
        due("traceSum: no run", 0L, x::traceSum);
        steps(x, 0, 0, "n 3 0");
        patterns(x, "e 0 0");
        x.addAdvice(0, 'b', 0, 0, 0);
        x.addAdvice(0, 'b', 0, 0, 0);
        x.addAdvice(0, 'a', 0, 0, 0);
        x.run(0, 0, -50);
        due("traceSum: of three", -50L + 2 * (-50 + 131) + 3 * (-47 + 262), x::traceSum);
        Weaversgate y = withClass();
        steps(y, 0, 0, "s 0 0, g 0 0");
        patterns(y, "e 0 0, g 0 0");
        y.addAdvice(0, 'r', 0, 0, 2);
        y.addAdvice(0, 'r', 0, 0, 2);
        y.addAdvice(0, 'r', 0, 0, 2);
        y.addAdvice(0, 'r', 0, 0, 2);
        y.addAdvice(0, 'f', 0, 0, 0);
        y.run(0, 0, 99);
        due("traceSum: of more", sumOf(y), y::traceSum);
        due("traceSum: 31 acted", 31, y::traceLength);
        Weaversgate z = withClass();
        steps(z, 0, 0, "c 1 0, c 1 0, c 1 0, c 1 0, c 1 0, c 1 0, c 1 0");
        steps(z, 0, 1, "s 0 0, g 0 0, s 0 0, g 0 0, s 0 0, g 0 0, s 0 0, g 0 0");
        patterns(z, "g 0 0");
        z.addAdvice(0, 'a', 0, 0, 0);
        z.addAdvice(0, 'b', 0, 0, 0);
        z.addAdvice(0, 'b', 0, 0, 0);
        z.addAdvice(0, 'b', 0, 0, 0);
        z.run(0, 0, 99);
        long[] values = new long[112];
        long value = 99;
        for (int i = 0; i < 28; i++) {
            values[4 * i] = (int) value + 131;
            values[4 * i + 1] = (int) value + 262;
            values[4 * i + 2] = (int) value + 393;
            value *= 2;
            values[4 * i + 3] = (int) value;
        }
        long all = 0;
        for (int i = 0; i < 112; i++) {
            all += (i + 1) * values[i];
        }
        long most = all;
        due("traceSum: beyond the ints", most, z::traceSum);
        due("traceSum: is a long", true, () -> z.traceSum() > Integer.MAX_VALUE || z.traceSum() < Integer.MIN_VALUE);
    }

    private static void acted() {
        Weaversgate x = withClass();
        for (char kind : "baxfr".toCharArray()) {
            due("acted: no run", 0, () -> x.acted(kind));
        }
        due("acted: no kind", ARGUMENT, () -> x.acted('c'));
        due("acted: the sign 0", ARGUMENT, () -> x.acted((char) 0));
        steps(x, 0, 0, "h 3 0, t 1 0");
        steps(x, 0, 1, "h 3 0, c 2 0");
        steps(x, 0, 2, "t 1 0");
        patterns(x, "e 0 0, c 0 0, | 0 1");
        x.addAdvice(0, 'b', 2, 0, 0);
        x.addAdvice(0, 'a', 0, 0, 0);
        x.addAdvice(0, 'x', 2, 0, 0);
        x.addAdvice(0, 'f', 2, 0, 0);
        x.addAdvice(0, 'r', 0, 0, 1);
        x.run(0, 1, 5);
        due("acted: b", 4, () -> x.acted('b'));
        due("acted: a", 1, () -> x.acted('a'));
        due("acted: x", 2, () -> x.acted('x'));
        due("acted: f", 4, () -> x.acted('f'));
        due("acted: r", 2, () -> x.acted('r'));
        due("acted: all", 13, x::traceLength);
        x.run(0, 2, 0);
        due("acted: x in another run", 0, () -> x.acted('x'));
    }

    private static void sureShare() {
        Weaversgate x = withClass();
        due("sureShare: nothing", ARITHMETIC, x::sureShare);
        patterns(x, "v 0 0, c 0 0");
        x.addAdvice(0, 'b', 1, 0, 0);
        due("sureShare: no place", ARITHMETIC, x::sureShare);
        steps(x, 0, 0, "c 0 0, g 0 0");
        due("sureShare: all are sure", 1.0f, x::sureShare);
        x.addAdvice(0, 'b', 0, 0, 0);
        due("sureShare: half", 0.5f, x::sureShare);
        x.turn(0, false);
        due("sureShare: none is sure", 0.0f, x::sureShare);
        x.turn(1, false);
        due("sureShare: no advice is on", ARITHMETIC, x::sureShare);
        x.turn(0, true);
        x.turn(1, true);
        x.addAdvice(0, 'b', 1, 0, 0);
        due("sureShare: two of three", 6.0f / 9.0f, x::sureShare);
    }

    private static void meanSteps() {
        Weaversgate x = withClass();
        due("meanSteps: no body", ARITHMETIC, x::meanSteps);
        x.addClass(0);
        steps(x, 0, 0, "n 1 0");
        due("meanSteps: one", 1.0, x::meanSteps);
        steps(x, 0, 5, "n 1 0, m 0 0");
        due("meanSteps: one and two", 1.5, x::meanSteps);
        steps(x, 1, 0, "n 1 0, h 0 0");
        due("meanSteps: five in three", 5.0 / 3.0, x::meanSteps);
        x.dropBody(0, 0);
        due("meanSteps: a body less", 2.0, x::meanSteps);
        x.dropBody(0, 5);
        x.dropBody(1, 0);
        due("meanSteps: none any more", ARITHMETIC, x::meanSteps);
    }

    private static void isSound() {
        Weaversgate x = new Weaversgate();
        due("isSound: no class", true, x::isSound);
        x.addClass(-1);
        due("isSound: no body", true, x::isSound);
        steps(x, 0, 1, "n 1 0");
        due("isSound: no body for the method 0", true, x::isSound);
        due("isSound: is no run", STATE, x::result);
        steps(x, 0, 0, "c 0 0");
        due("isSound: both are given up", true, x::isSound);
        due("isSound: is no run", 0, x::points);
        patterns(x, "e 0 0, v 0 0, | 0 1, c 0 0, f 3 0, & 2 4");
        x.addAdvice(0, 'b', 5, 0, 0);
        x.addAdvice(1, 'r', 3, 3, 2);
        x.run(0, 1, 5);
        String last = ended(x, 'r') + x.points() + " " + x.asked() + " " + x.traceSum();
        due("isSound: with advice", true, x::isSound);
        due("isSound: the last run stays", last, () -> ended(x, 'r') + x.points() + " " + x.asked() + " " + x.traceSum());
        x.precede(0, 1, true);
        x.precede(1, 0, true);
        due("isSound: a ring", true, x::isSound);
    }

    private static void aThrowChangesNothing() {
        Weaversgate x = withClass();
        steps(x, 0, 0, "n 1 0");
        patterns(x, "e 0 0");
        x.addAdvice(0, 'b', 0, 0, 0);
        x.run(0, 0, 7);
        due("throw: run", ARGUMENT, () -> x.run(0, 0, 100));
        due("throw: addStep", ARGUMENT, () -> x.addStep(0, 0, 'm', 1, 0));
        due("throw: addClass", INDEX, () -> x.addClass(1));
        due("throw: addPattern", ELEMENT, () -> x.addPattern('&', 0, 1));
        due("throw: addAdvice", ELEMENT, () -> x.addAdvice(0, 'b', 1, 0, 0));
        due("throw: precede", ARGUMENT, () -> x.precede(0, 0, true));
        due("throw: the run stays", "r 8 b0:7", () -> ended(x, 'r'));
        due("throw: the steps stay", 2, () -> x.addStep(0, 0, 'n', 1, 0));
        due("throw: the patterns stay", 1, () -> x.addPattern('c', 0, 0));
        due("throw: the advices stay", 1, () -> x.addAdvice(0, 'b', 1, 0, 0));
        due("throw: the classes stay", 1, () -> x.addClass(0));
    }
}
