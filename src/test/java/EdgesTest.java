import java.util.ArrayList;
import java.util.List;
import java.util.function.Supplier;

/**
 * The sentences of the document that name a boundary, in their order: the last number that is
 * allowed and the first that is not, the empty and the full case, what goes round. What calls refuse
 * is in RefusalsTest.
 */
public final class EdgesTest extends Checks {
    private static final int LOWEST = Integer.MIN_VALUE;
    private static final int HIGHEST = Integer.MAX_VALUE;
    private static final String KINDS = "baxfr";

    public static void main(String[] args) {
        fiveHundredAndTwelveCalls();
        sixClasses();
        belowAnotherClass();
        fourFields();
        sixMethodsOfEightSteps();
        bodiesThatAreFound();
        intsThatGoRound();
        valuesThatAreThrown();
        handlersThatTake();
        handlersThatAreOpen();
        behindTheStepThatThrew();
        fullAndShortBodies();
        objectsThatAreMade();
        pointsOfSteps();
        theCallFromOutside();
        whatGoesOn();
        patternsOfNames();
        patternsOfValues();
        twentyFourPatterns();
        twelveAdvices();
        whoActs();
        goingOn();
        allOrders();
        aRingOfAspects();
        numbersOfPlaces();
        namesOfHandlers();
        classesOfObjects();
        allPairs();
        whatIsAsked();
        a121stPoint();
        a21stThatGoesOn();
        a401stThatActs();
        nothingIsDoneAnyMore();
        lastRuns();
        traceSums();
        soundness();
        finish();
    }

    // ---- "An object is used for at most 512 calls after it has been made"

    private static void fiveHundredAndTwelveCalls() {
        Weaversgate empty = new Weaversgate();
        for (int call = 1; call < 512; call++) {
            answer(() -> empty.run(0, 0, 0));
        }
        due("512 calls: the last one is the first that is not refused", 0, () -> empty.addClass(-1));
        Weaversgate making = withClass();
        steps(making, 0, 0, "m 0 1, m 0 1, m 0 1, m 0 1, m 0 1, m 0 1, m 0 1, m 0 1");
        steps(making, 0, 1, "s 0 0, s 1 0, g 0 0, g 1 0, m 0 2, m 0 2, m 0 2");
        steps(making, 0, 2, "n 0 0");
        for (int call = 1 + 8 + 7 + 1 + 1; call < 512; call++) {
            due("512 calls: makes objects, call " + call, 'l', () -> making.run(0, 0, 0));
        }
        due("512 calls: the last run begins as many points", 120, making::points);
        Weaversgate acting = acting();
        for (int call = 1 + 1 + 1 + 12 + 1; call < 511; call++) {
            due("512 calls: acts, call " + call, 'l', () -> acting.run(0, 0, 1));
        }
        due("512 calls: as many act in the last run", 400, acting::traceLength);
        Weaversgate fresh = acting();
        fresh.run(0, 0, 1);
        due("512 calls: with the same numbers as in the first one", fresh.traceSum(), acting::traceSum);
        Weaversgate looking = full('v');
        for (int call = 6 + 36 * 8 + 1 + 12 + 1; call <= 512; call++) {
            due("512 calls: is sound, call " + call, true, looking::isSound);
        }
    }

    /** A run of the body that twelve are around, each of which goes on twice. */
    private static Weaversgate acting() {
        Weaversgate x = withClass();
        steps(x, 0, 0, "n 1 0");
        patterns(x, "e 0 0");
        for (int advice = 0; advice < 12; advice++) {
            x.addAdvice(0, 'r', 0, 1, 2);
        }
        return x;
    }

    // ---- "At most 6 classes are numbered from 0; a class has a parent with a lower number, or none."

    private static void sixClasses() {
        for (int parent = -1; parent < 5; parent++) {
            int number = parent;
            Weaversgate x = new Weaversgate();
            for (int i = 0; i < 5; i++) {
                x.addClass(-1);
            }
            due("classes: the sixth one below " + parent, 5, () -> x.addClass(number));
            due("classes: a seventh one", STATE, () -> x.addClass(number));
            due("classes: the last one can have a body", 1, () -> x.addStep(5, 5, 'n', 0, 0));
            due("classes: the first that is not cannot", INDEX, () -> x.addStep(6, 5, 'n', 0, 0));
        }
        Weaversgate y = new Weaversgate();
        for (int i = 0; i < 6; i++) {
            int number = i;
            due("classes: none has its own number as its parent", INDEX, () -> y.addClass(number));
            due("classes: the one just ahead", number, () -> y.addClass(number - 1));
        }
    }

    // ---- "A class is below another one if it is this one, or its parent is below it."

    private static void belowAnotherClass() {
        int[] parents = {-1, 0, 0, 1, 1, 3};
        String[] below = {"ynnnnn", "yynnnn", "ynynnn", "yynynn", "yynnyn", "yynyny"};
        Weaversgate x = new Weaversgate();
        for (int parent : parents) {
            x.addClass(parent);
        }
        for (int type = 0; type < 6; type++) {
            x.addPattern('t', type, 0);
            x.addAdvice(0, 'b', type, 0, 0);
            x.addStep(type, 0, 'n', 0, 0);
        }
        for (int type = 0; type < 6; type++) {
            StringBuilder act = new StringBuilder("r 1");
            for (int round = 0; round < 2; round++) {
                for (int other = 0; other < 6; other++) {
                    int one = type;
                    int two = other;
                    due("below: " + type + " of " + other, below[type].charAt(other), () -> x.match(one, 0, 0, two));
                    act.append(below[type].charAt(other) == 'y' ? " b" + other + ":1" : "");
                }
            }
            ends("below: at the points of " + type, x, type, 0, 1, act.toString());
        }
    }

    // ---- "An object has a class and the fields 0 to 3, each an int, 0 at first."

    private static void fourFields() {
        for (int field = 0; field < 4; field++) {
            Weaversgate x = withClass();
            x.addStep(0, 0, 'g', field, 0);
            ends("fields: 0 at first, " + field, x, 0, 0, 7, "r 7");
            x.addStep(0, 0, 's', field, 0);
            ends("fields: 0 at first in each run, " + field, x, 0, 0, 7, "r 7");
            Weaversgate y = withClass();
            steps(y, 0, 0, "s 0 0, n 1 0, s 1 0, n 1 0, s 2 0, n 1 0, s 3 0, c 1 0");
            y.addStep(0, 1, 'g', field, 0);
            ends("fields: each for itself, " + field, y, 0, 0, 10, "r " + (13 + 10 + field));
            Weaversgate z = withClass();
            z.addStep(0, 0, 's', field, 0);
            z.addStep(0, 0, 'm', 0, 1);
            z.addStep(0, 1, 'g', field, 0);
            ends("fields: 0 at first in an object that is made, " + field, z, 0, 0, 10, "r 10");
        }
    }

    // ---- "The methods are numbered from 0 to 5. A class can have a body for a method, of at most 8 steps"

    private static void sixMethodsOfEightSteps() {
        Weaversgate x = new Weaversgate();
        for (int type = 0; type < 6; type++) {
            x.addClass(type - 1);
            for (int method = 0; method < 6; method++) {
                int[] body = {type, method};
                for (int step = 1; step <= 8; step++) {
                    int steps = step;
                    due("steps: number " + step, steps, () -> x.addStep(body[0], body[1], 'n', body[0] + body[1], 0));
                }
            }
        }
        for (int type = 0; type < 6; type++) {
            for (int method = 0; method < 6; method++) {
                int[] body = {type, method};
                due("steps: a ninth", STATE, () -> x.addStep(body[0], body[1], 'n', 99, 0));
                due("steps: each body has its own", 'r', () -> x.run(body[0], body[1], 1));
                due("steps: its result", 1 + 8 * (type + method), x::result);
            }
        }
        Weaversgate y = withClass();
        steps(y, 0, 5, "n 1 0, n 1 0, n 1 0, n 1 0, n 1 0, n 1 0, n 1 0, n 1 0");
        due("steps: a full one is taken away", 8, () -> y.dropBody(0, 5));
        due("steps: none any more", 0, () -> y.dropBody(0, 5));
        for (int step = 1; step <= 8; step++) {
            due("steps: again number " + step, step, () -> y.addStep(0, 5, 'n', 2, 0));
        }
        due("steps: again a ninth", STATE, () -> y.addStep(0, 5, 'n', 2, 0));
        ends("steps: eight of them", y, 0, 5, 0, "r 16");
    }

    // ---- "a body is found for a class and a method in the class, or else for its parent"

    private static void bodiesThatAreFound() {
        Weaversgate x = new Weaversgate();
        for (int type = 0; type < 6; type++) {
            x.addClass(type - 1);
        }
        due("found: none in six classes", -1, () -> x.finds(5, 5));
        ends("found: none, so the call throws", x, 5, 5, 9, "x 4");
        for (int holder = 0; holder < 6; holder++) {
            int[] at = {holder};
            x.addStep(holder, 5, 'n', holder, 0);
            due("found: the nearest of " + (holder + 1), at[0], () -> x.finds(5, 5));
            due("found: in the class itself", at[0], () -> x.finds(at[0], 5));
            ends("found: and done", x, 5, 5, 9, "r " + (9 + holder));
        }
        for (int holder = 5; holder >= 0; holder--) {
            int[] at = {holder};
            due("found: the one that is taken away", 1, () -> x.dropBody(at[0], 5));
            due("found: or else of the parent", at[0] - 1, () -> x.finds(5, 5));
        }
        ends("found: none any more", x, 5, 5, 9, "x 4");
    }

    // ---- "the value, an int that is told at first, as ints go round"

    /** The method 5 makes 2^28 times the value of it, so 2^31 of 8, which is the lowest int. */
    private static Weaversgate doubling(String behind) {
        Weaversgate x = withClass();
        steps(x, 0, 5, "c 4 0, c 4 0, c 4 0, c 4 0, c 4 0, c 4 0, c 4 0");
        steps(x, 0, 4, "s 0 0, g 0 0, s 0 0, g 0 0, s 0 0, g 0 0, s 0 0, g 0 0");
        steps(x, 0, 0, "c 5 0" + behind);
        return x;
    }

    private static void intsThatGoRound() {
        ends("round: 7 times 2^28", doubling(""), 0, 0, 7, "r 1879048192");
        ends("round: 8 times 2^28, at a 'g'", doubling(""), 0, 0, 8, "r " + LOWEST);
        ends("round: -8 times 2^28, not yet", doubling(""), 0, 0, -8, "r " + LOWEST);
        ends("round: -9 times 2^28", doubling(""), 0, 0, -9, "r 1879048192");
        ends("round: 16 times 2^28", doubling(""), 0, 0, 16, "r 0");
        ends("round: below the lowest, at an 'n'", doubling(", n -1 0"), 0, 0, 8, "r " + HIGHEST);
        ends("round: beyond the highest, at an 'n'", doubling(", n -1 0, n 1 0"), 0, 0, 8, "r " + LOWEST);
        ends("round: by 99", doubling(", n -1 0, n 99 0"), 0, 0, 8, "r " + (HIGHEST + 99));
        ends("round: the highest twice", doubling(", n -1 0, s 0 0, g 0 0"), 0, 0, 8, "r -2");
        ends("round: the highest is greater than 99", doubling(", n -1 0, t 2 99"), 0, 0, 8, "x 2");
        ends("round: the lowest is not greater than -99", doubling(", t 2 -99"), 0, 0, 8, "r " + LOWEST);
        Weaversgate x = doubling(", n -1 0, s 1 0, s 2 0");
        patterns(x, "s 0 0, n 1 0, & 0 1, n 2 0, & 0 3, v 99 0, & 4 5, v -99 0, ! 7 0, & 0 8");
        x.addAdvice(0, 'r', 2, 1, 1);
        x.addAdvice(1, 'a', 2, 0, 0);
        x.addAdvice(1, 'b', 6, 0, 0);
        x.addAdvice(1, 'b', 9, 0, 0);
        ends("round: more at 'r'", x, 0, 0, 8, "r " + LOWEST + " r0:" + HIGHEST + " a1:" + LOWEST + " b3:" + LOWEST);
        x.turn(0, false);
        ends("round: the highest as a value", x, 0, 0, 8, "r " + HIGHEST + " a1:" + HIGHEST + " b2:" + HIGHEST);
        Weaversgate y = doubling(", n -1 0, s 1 0");
        patterns(y, "s 0 0, n 1 0, & 0 1");
        y.addAdvice(0, 'b', 2, 0, 0);
        y.addAdvice(0, 'b', 2, 0, 0);
        y.run(0, 0, 8);
        due("round: not in the sum of the trace", 3L * HIGHEST + 2 * 131, y::traceSum);
        Weaversgate z = doubling(", s 1 0");
        patterns(z, "s 0 0, n 1 0, & 0 1");
        z.addAdvice(0, 'r', 2, -1, 2);
        ends("round: more at 'r', downwards and twice", z, 0, 0, 8, "r " + (HIGHEST - 1) + " r0:" + LOWEST);
    }

    // ---- "'t' throws the exception a if the value is greater than b"

    private static void valuesThatAreThrown() {
        for (int b : new int[] {-99, -1, 0, 1, 98}) {
            Weaversgate x = withClass();
            x.addStep(0, 0, 't', 3, b);
            ends("t: " + b + " is not greater than it", x, 0, 0, b, "r " + b);
            ends("t: " + (b + 1) + " is greater than " + b, x, 0, 0, b + 1, "x 3");
        }
        Weaversgate y = withClass();
        steps(y, 0, 0, "t 0 99");
        ends("t: 99 is not greater than 99", y, 0, 0, 99, "r 99");
        steps(y, 0, 1, "n 1 0, t 0 99");
        ends("t: 100 is", y, 0, 1, 99, "x 0");
        for (int thrown = 0; thrown < 4; thrown++) {
            Weaversgate z = withClass();
            z.addStep(0, 0, 't', thrown, 0);
            ends("t: the exception " + thrown, z, 0, 0, 1, "x " + thrown);
        }
    }

    // ---- "throws an exception that is not greater than a"; "a call of a method for which no body is found"

    private static void handlersThatTake() {
        for (int a = 0; a < 4; a++) {
            for (int thrown = 0; thrown < 4; thrown++) {
                Weaversgate x = withClass();
                x.addStep(0, 0, 'h', a, 0);
                x.addStep(0, 0, 't', thrown, 0);
                ends("h: " + a + " and the exception " + thrown, x, 0, 0, 1, thrown <= a ? "r 0" : "x " + thrown);
            }
            Weaversgate y = withClass();
            y.addStep(0, 0, 'h', a, 0);
            y.addStep(0, 0, 'c', 5, 0);
            ends("h: " + a + " does not take 4", y, 0, 0, 1, "x 4");
            Weaversgate z = withClass();
            z.addStep(0, 0, 'h', a, 0);
            z.addStep(0, 0, 'm', 0, 5);
            ends("h: " + a + " does not take 4 of an object made", z, 0, 0, 1, "x 4");
        }
    }

    // ---- "when a later step of this run of the body throws"; "the handler that was opened last of those"

    private static void handlersThatAreOpen() {
        Weaversgate x = withClass();
        steps(x, 0, 0, "t 0 5, h 3 0");
        ends("h: a step ahead of it is not later", x, 0, 0, 6, "x 0");
        ends("h: opened and not needed", x, 0, 0, 5, "r 5");
        // Each run of the body opens its handler behind its 't': only the run that called takes it.
        steps(x, 0, 1, "n 1 0, t 1 5, h 1 0, c 1 0");
        ends("h: of another run of the same body", x, 0, 1, 4, "r 0");
        due("h: c e, c e, h", 5, x::points);
        // The names at the handler tell which one it is: 'n 2' is asked where a handler can take 2.
        asksForTwo("h: the last of those that take 2", "h 3 0, h 2 0, h 1 0, t 2 0", 2);
        asksForTwo("h: the last one that takes 1 takes no 2", "h 3 0, h 1 0, t 1 0", 1);
        asksForTwo("h: the last one takes 1 and 2", "h 1 0, h 3 0, t 1 0", 2);
        asksForTwo("h: the first one, as the last one takes no 1", "h 3 0, h 0 0, t 1 0", 2);
        asksForTwo("h: one that is opened behind is not open", "h 1 0, t 1 0, h 3 0", 1);
    }

    /** One is asked at the call from outside, and one more where the pattern can hold. */
    private static void asksForTwo(String what, String steps, int asked) {
        Weaversgate x = withClass();
        steps(x, 0, 0, steps);
        patterns(x, "n 2 0");
        x.addAdvice(0, 'b', 0, 0, 0);
        due(what, 'r', () -> x.run(0, 0, 1));
        due(what + ", asked", asked, x::asked);
    }

    // ---- "the value becomes 0, and then the result of the point of this, and the run goes on behind"

    private static void behindTheStepThatThrew() {
        Weaversgate x = withClass();
        steps(x, 0, 0, "h 0 0, t 0 0");
        steps(x, 0, 1, "h 0 0, t 0 0, n 7 0");
        steps(x, 0, 2, "h 0 0, t 0 -9, t 0 -9, t 0 -9, n 7 0, t 0 5, n 9 0, t 0 8");
        steps(x, 0, 3, "h 0 0, c 0 0, c 4 0, n 3 0");
        steps(x, 0, 4, "t 0 -99");
        ends("h: behind the last step", x, 0, 0, 1, "r 0");
        ends("h: behind it is one more", x, 0, 1, 1, "r 7");
        ends("h: six exceptions, to the last step", x, 0, 2, 1, "r 0");
        due("h: c e and five h", 7, x::points);
        ends("h: a call that handles and one that throws", x, 0, 3, 1, "r 3");
        for (int times = 0; times < 3; times++) {
            for (int more : new int[] {-99, 0, 99}) {
                Weaversgate y = withClass();
                steps(y, 0, 0, "h 0 0, t 0 0");
                patterns(y, "h 0 0");
                y.addAdvice(0, 'r', 0, more, times);
                ends("h: the result of its point", y, 0, 0, 1, "r " + times * more + " r0:0");
            }
        }
        Weaversgate z = withClass();
        steps(z, 0, 0, "h 0 0, t 0 0, t 0 0");
        patterns(z, "h 0 0");
        z.addAdvice(0, 'r', 0, 1, 1);
        ends("h: the result is thrown on by the next step, and handled", z, 0, 0, 1, "r 1 r0:0 r0:0");
    }

    // ---- "The result of a body is the value behind its last step"

    private static void fullAndShortBodies() {
        for (String step : "n 0 0, s 0 0, g 0 0, h 0 0, t 0 99".split(", ")) {
            Weaversgate x = withClass();
            steps(x, 0, 0, step);
            ends("body: of one step " + step, x, 0, 0, 42, "r 42");
            for (int i = 1; i < 8; i++) {
                steps(x, 0, 0, i == 7 ? "n 1 0" : "n 0 0");
            }
            ends("body: the eighth step is done", x, 0, 0, 42, "r 43");
        }
        Weaversgate y = withClass();
        steps(y, 0, 0, "n 1 0");
        y.dropBody(0, 0);
        ends("body: of no steps is none", y, 0, 0, 42, "x 4");
    }

    // ---- "'m' makes one object of the class a, whatever advice does, and calls its method b"

    private static void objectsThatAreMade() {
        Weaversgate x = new Weaversgate();
        for (int i = 0; i < 6; i++) {
            x.addClass(-1);
        }
        steps(x, 0, 0, "m 5 5, n 50 0");
        steps(x, 5, 5, "n 1 0");
        ends("m: the highest class and method", x, 0, 0, 0, "r 51");
        steps(x, 0, 1, "m 0 2");
        steps(x, 0, 2, "n 2 0");
        ends("m: the lowest class", x, 0, 1, 0, "r 2");
        for (int times = 0; times < 3; times++) {
            Weaversgate y = withClass();
            steps(y, 0, 0, "s 0 0, m 0 1");
            steps(y, 0, 1, "g 0 0, s 0 0, g 0 0");
            patterns(y, "m 0 0");
            y.addAdvice(0, 'r', 0, 10, times);
            // The call gets 3 + 10 * times, and the field of the one object that it was made is 0.
            ends("m: one object, gone on " + times, y, 0, 0, 3, "r " + 2 * (3 + 10 * times) + " r0:3");
            due("m: c e s m c e g s g", 9, y::points);
        }
        Weaversgate z = withClass();
        steps(z, 0, 0, "m 0 1");
        steps(z, 0, 1, "g 0 0, s 0 0");
        patterns(z, "c 0 0, n 1 0, & 0 1");
        z.addAdvice(0, 'r', 2, 1, 2);
        // The call is done twice for the same object: 4, then 4 + 1 and 4 of the field.
        ends("m: its call twice, one object", z, 0, 0, 3, "r 9 r0:3");
    }

    // ---- "What happens at a step is a point"

    private static void pointsOfSteps() {
        String[] steps = {"n 1 0", "t 0 99", "h 0 0", "g 0 0", "s 0 0", "c 1 0", "m 0 1"};
        int[] points = {2, 2, 2, 3, 3, 4, 5};
        for (int i = 0; i < steps.length; i++) {
            Weaversgate x = withClass();
            steps(x, 0, 0, steps[i]);
            steps(x, 0, 1, "n 0 0");
            due("points: of " + steps[i], 'r', () -> x.run(0, 0, 0));
            due("points: their number for " + steps[i], points[i], x::points);
        }
        Weaversgate none = withClass();
        due("points: no body is found", 'x', () -> none.run(0, 5, 0));
        due("points: the call alone", 1, none::points);
        steps(none, 0, 0, "h 3 0, t 3 0, t 0 0");
        due("points: one exception handled", 'r', () -> none.run(0, 0, 1));
        due("points: c e h", 3, none::points);
        due("points: none is thrown", 'r', () -> none.run(0, 0, 0));
        due("points: c e", 2, none::points);
    }

    // ---- "A run begins with a call from outside, which has no place."

    private static void theCallFromOutside() {
        for (int type = 0; type < 6; type++) {
            Weaversgate x = new Weaversgate();
            for (int i = 0; i < 6; i++) {
                x.addClass(-1);
            }
            x.addStep(type, 0, 'n', 0, 0);
            x.addPattern('w', type, 0);
            x.addPattern('!', 0, 0);
            x.addAdvice(0, 'a', 0, 0, 0);
            x.addAdvice(0, 'b', 1, 0, 0);
            // 'w' does not hold outside, so its '!' does; inside it is the other way.
            ends("outside: 'w' of " + type, x, type, 0, 5, "r 5 b1:5 a0:5");
        }
    }

    // ---- "A point begins ahead of what it is and ends behind it; those that have begun and not ended go on."

    private static void whatGoesOn() {
        // 'f' of each kind: at the points of this kind and at those inside of them, none behind them.
        String steps = "s 0 0, n 1 0, g 1 0, n 1 0, m 0 1, h 0 0, t 0 0";
        goesOn("c 0 0", steps, "c1 e1 s1 g2 m3 c3 e3 h0");
        goesOn("e 0 0", steps, "e1 s1 g2 m3 c3 e3 h0");
        goesOn("s 0 0", steps, "s1");
        goesOn("g 0 0", steps, "g2");
        goesOn("m 0 0", steps, "m3");
        goesOn("h 0 0", steps, "h0");
        goesOn("n 1 0", steps, "g2 c3 e3");
        goesOn("v 2 0", steps, "m3 c3 e3");
        goesOn("v 0 0", steps, "c1 e1 s1 g2 m3 c3 e3 h0");
        goesOn("v 3 0", steps, "");
    }

    /** What acts by 'f' of a pattern at the points c 1, e 1, s 1, g 2, m 3, c 3, e 3, h 0, told as kind and value. */
    private static void goesOn(String pattern, String steps, String want) {
        Weaversgate x = withClass();
        steps(x, 0, 0, steps);
        steps(x, 0, 1, "n 0 0");
        patterns(x, pattern + ", f 0 0");
        String kinds = "cesgmh";
        for (int i = 0; i < kinds.length(); i++) {
            x.addPattern(kinds.charAt(i), 0, 0);
            x.addPattern('&', 1, 2 + 2 * i);
            x.addAdvice(0, 'b', 3 + 2 * i, 0, 0);
        }
        StringBuilder end = new StringBuilder("r 0");
        for (String act : want.split(" ")) {
            end.append(act.isEmpty() ? "" : " b" + kinds.indexOf(act.charAt(0)) + ":" + act.substring(1));
        }
        ends("goes on: f of " + pattern, x, 0, 0, 1, end.toString());
    }

    // ---- "'n', if its name is a"

    private static void patternsOfNames() {
        Weaversgate x = new Weaversgate();
        for (int i = 0; i < 6; i++) {
            x.addClass(-1);
        }
        steps(x, 0, 5, "s 3 0, g 3 0, m 5 5, h 3 0, t 3 0");
        steps(x, 5, 5, "n 1 0");
        patterns(x, "n 5 0, n 3 0");
        x.addAdvice(0, 'b', 0, 0, 0);
        x.addAdvice(0, 'b', 1, 0, 0);
        ends("n: the highest names", x, 0, 5, 4, "r 0 b0:4 b0:4 b1:4 b1:4 b0:8 b0:8 b0:8 b1:0");
        Weaversgate y = withClass();
        steps(y, 0, 0, "s 0 0, g 0 0, m 0 1, h 0 0, t 0 0");
        steps(y, 0, 1, "n 1 0");
        patterns(y, "n 0 0");
        y.addAdvice(0, 'b', 0, 0, 0);
        ends("n: the lowest names", y, 0, 0, 4, "r 0 b0:4 b0:4 b0:4 b0:4 b0:8 b0:0");
        Weaversgate z = withClass();
        patterns(z, "n 4 0");
        z.addAdvice(0, 'x', 0, 0, 0);
        ends("n: a call that finds no body has a name", z, 0, 4, 1, "x 4 x0:4");
        ends("n: which is not that of its exception", z, 0, 3, 1, "x 4");
    }

    // ---- "'v', if its value is greater than a"

    private static void patternsOfValues() {
        for (int a : new int[] {-99, -1, 0, 1, 98, 99}) {
            Weaversgate x = withClass();
            x.addPattern('v', a, 0);
            x.addAdvice(0, 'f', 0, 0, 0);
            ends("v: " + a + " is not greater than it", x, 0, 0, a, "x 4");
            if (a < 99) {
                ends("v: " + (a + 1) + " is greater than " + a, x, 0, 0, a + 1, "x 4 f0:4");
            }
        }
        // The value is that of the beginning, not what advice outside makes of it.
        Weaversgate y = withClass();
        steps(y, 0, 0, "n 0 0");
        patterns(y, "v 5 0, c 0 0, & 0 1");
        y.addAdvice(0, 'r', 1, 1, 1);
        y.addAdvice(1, 'b', 2, 0, 0);
        ends("v: 5, of which the advice outside makes 6", y, 0, 0, 5, "r 6 r0:5");
        ends("v: 6 at the beginning", y, 0, 0, 6, "r 7 r0:6 b1:7");
    }

    // ---- "At most 24 patterns are numbered from 0."

    private static void twentyFourPatterns() {
        Weaversgate x = withClass();
        steps(x, 0, 0, "n 1 0");
        due("patterns: the first one", 0, () -> x.addPattern('e', 0, 0));
        for (int i = 1; i < 24; i++) {
            int number = i;
            due("patterns: number " + i, number, () -> x.addPattern('!', number - 1, 0));
        }
        due("patterns: a 25th", STATE, () -> x.addPattern('!', 23, 0));
        due("patterns: the last one has an advice", 0, () -> x.addAdvice(0, 'b', 23, 0, 0));
        due("patterns: the first one too", 1, () -> x.addAdvice(0, 'a', 0, 0, 0));
        due("patterns: 23 times turned round", 'n', () -> x.match(0, 0, 0, 0));
        // It holds where 'e' does not: at the call from outside.
        ends("patterns: the last one holds outside", x, 0, 0, 5, "r 6 b0:5 a1:6");
        for (String same : "& 0 0, | 0 0".split(", ")) {
            Weaversgate y = withClass();
            steps(y, 0, 0, "n 1 0");
            patterns(y, "e 0 0, " + same);
            y.addAdvice(0, 'b', 1, 0, 0);
            due("patterns: twice the same one, " + same, 'y', () -> y.match(0, 0, 0, 0));
            ends("patterns: twice the same one, " + same, y, 0, 0, 5, "r 6 b0:5");
        }
    }

    // ---- "At most 12 advices are numbered from 0. An advice has an aspect from 0 to 3"

    private static void twelveAdvices() {
        Weaversgate x = withClass();
        steps(x, 0, 0, "n 1 0");
        patterns(x, "e 0 0");
        for (int i = 0; i < 12; i++) {
            int number = i;
            due("advices: number " + i, number, () -> x.addAdvice(3 - number % 4, 'b', 0, 0, 0));
            due("advices: it is on", true, () -> x.turn(number, true));
        }
        due("advices: a 13th", STATE, () -> x.addAdvice(0, 'b', 0, 0, 0));
        String all = "r 6 b3:5 b7:5 b11:5 b2:5 b6:5 b10:5 b1:5 b5:5 b9:5 b0:5 b4:5 b8:5";
        ends("advices: all twelve at one point, by aspects and numbers", x, 0, 0, 5, all);
        due("advices: twelve are asked at each point", 24, x::asked);
        for (int i = 0; i < 12; i++) {
            int number = i;
            due("advices: turned off", true, () -> x.turn(number, false));
            due("advices: it is off", false, () -> x.turn(number, false));
        }
        ends("advices: none is on", x, 0, 0, 5, "r 6");
        due("advices: none is asked", 0, x::asked);
        due("advices: the last one on again, it was off", false, () -> x.turn(11, true));
        ends("advices: the last one alone", x, 0, 0, 5, "r 6 b11:5");
    }

    // ---- "'a' goes on, and acts if there is a result; 'x' .. if an exception is thrown; 'f' .. in both cases"

    private static void whoActs() {
        String[] results = {"r 7 b0:5", "r 7 a0:7", "r 7", "r 7 f0:7", "r 9 r0:5"};
        String[] throwns = {"x 3 b0:50", "x 3", "x 3 x0:3", "x 3 f0:3", "x 3 r0:50"};
        String[] missing = {"x 4 b0:5", "x 4", "x 4 x0:4", "x 4 f0:4", "x 4 r0:5"};
        for (int i = 0; i < KINDS.length(); i++) {
            char kind = KINDS.charAt(i);
            Weaversgate x = withClass();
            steps(x, 0, 0, "n 2 0, t 3 50");
            patterns(x, "e 0 0");
            x.addAdvice(0, kind, 0, 2, 1);
            ends("acts: " + kind + " at a result", x, 0, 0, 5, results[i]);
            ends("acts: " + kind + " at an exception", x, 0, 0, 50, throwns[i]);
            Weaversgate y = withClass();
            patterns(y, "c 0 0");
            y.addAdvice(0, kind, 0, 2, 1);
            ends("acts: " + kind + " at a call of no body", y, 0, 0, 5, missing[i]);
        }
    }

    // ---- "goes on as many times as its times tell, 0 to 2"; "its result is the last result, or the value"

    private static void goingOn() {
        for (int more : new int[] {-99, -1, 0, 1, 99}) {
            for (int times = 0; times < 3; times++) {
                int result = 10;
                for (int i = 0; i < times; i++) {
                    result = result + more + 3;
                }
                Weaversgate x = withClass();
                steps(x, 0, 0, "n 3 0");
                patterns(x, "e 0 0");
                x.addAdvice(0, 'r', 0, more, times);
                ends("r: " + times + " times, with " + more, x, 0, 0, 10, "r " + result + " r0:10");
                due("r: the runs of the body", 2, x::points);
            }
        }
        for (int times = 0; times < 3; times++) {
            Weaversgate x = withClass();
            steps(x, 0, 0, "n 3 0");
            patterns(x, "c 0 0");
            x.addAdvice(0, 'r', 0, 0, times);
            due("r: a call gone on " + times + " times", 'r', () -> x.run(0, 0, 1));
            due("r: the points of it", 1 + times, x::points);
            due("r: its result", 1 + 3 * times, x::result);
            Weaversgate y = withClass();
            patterns(y, "c 0 0");
            y.addAdvice(0, 'r', 0, 7, times);
            ends("r: what throws is gone on with once at most", y, 0, 0, 1, (times == 0 ? "r 1" : "x 4") + " r0:1");
        }
        for (char kind : "baxf".toCharArray()) {
            Weaversgate x = withClass();
            steps(x, 0, 0, "n 3 0");
            patterns(x, "e 0 0");
            x.addAdvice(0, kind, 0, 99, 0);
            x.addAdvice(0, kind, 0, -99, 2);
            due("r: more and times have no meaning for " + kind, 'r', () -> x.run(0, 0, 1));
            due("r: the result for " + kind, 4, x::result);
        }
    }

    // ---- "taking, again and again, the lowest one of which no other one that is not taken yet is told to come ahead"

    /** All 4096 ways of telling, the order found here by the words alone. */
    private static void allOrders() {
        int[][] pairs = new int[12][];
        int count = 0;
        for (int i = 0; i < 16; i++) {
            if (i / 4 != i % 4) {
                pairs[count] = new int[] {i / 4, i % 4};
                count++;
            }
        }
        for (int told = 0; told < 4096; told++) {
            Weaversgate x = new Weaversgate();
            // Half of them come by telling, half by taking back of what was told, a ring.
            for (int i = 0; i < 12 && told % 2 == 0; i++) {
                x.precede(pairs[i][0], pairs[i][1], true);
            }
            for (int i = 0; i < 12; i++) {
                x.precede(pairs[i][0], pairs[i][1], (told >> i & 1) == 1);
            }
            List<Integer> order = new ArrayList<>();
            int next = 0;
            while (next >= 0) {
                next = nextOf(order, pairs, told);
                if (next >= 0) {
                    order.add(next);
                }
            }
            boolean isRing = order.size() < 4;
            due("order: a ring of " + told, isRing, x::isRing);
            for (int rank = 0; rank < 4; rank++) {
                int number = rank;
                Object want = isRing ? STATE : order.get(rank);
                due("order: the rank " + rank + " of " + told, want, () -> x.aspectAt(number));
            }
        }
    }

    private static int nextOf(List<Integer> taken, int[][] pairs, int told) {
        for (int aspect = 0; aspect < 4; aspect++) {
            boolean isFree = !taken.contains(aspect);
            for (int i = 0; i < 12; i++) {
                isFree &= (told >> i & 1) == 0 || pairs[i][1] != aspect || taken.contains(pairs[i][0]);
            }
            if (isFree) {
                return aspect;
            }
        }
        return -1;
    }

    // ---- "If there is no such one, there is a ring."

    private static void aRingOfAspects() {
        int[][] rings = {{0, 1}, {2, 3}, {0, 3}, {1, 2, 3}, {3, 1, 0}, {0, 1, 2, 3}, {3, 2, 1, 0}};
        for (int[] ring : rings) {
            Weaversgate x = States.some();
            x.precede(2, 0, false);
            int points = x.points();
            for (int i = 0; i < ring.length; i++) {
                due("ring: none as long as it is open", false, x::isRing);
                x.precede(ring[i], ring[(i + 1) % ring.length], true);
            }
            due("ring: closed", true, x::isRing);
            due("ring: no rank", STATE, () -> x.aspectAt(3));
            due("ring: no run", STATE, () -> x.run(0, 0, 0));
            due("ring: no run that asks", STATE, () -> x.runAsking(0, 0, 0));
            due("ring: the last run stays", points, x::points);
            due("ring: sound", true, x::isSound);
            // What is sure does not come from the order.
            due("ring: matches", 'y', () -> x.match(0, 0, 4, 0));
            due("ring: residues", States.some().residues(), x::residues);
            due("ring: woven", States.some().woven(), x::woven);
            due("ring: the share", States.some().sureShare(), x::sureShare);
            due("ring: told so", true, () -> x.precede(ring[0], ring[1], false));
            due("ring: open again", false, x::isRing);
            due("ring: runs again", 'r', () -> x.run(1, 0, 0));
        }
    }

    // ---- "each body has one for its run, 'e', and one for each step 'c', 'g', 's' and 'h', and two for a step 'm'"

    private static void numbersOfPlaces() {
        String[] steps = {"n 0 0", "t 0 0", "c 0 0", "g 0 0", "s 0 0", "h 0 0", "m 0 0"};
        int[] each = {0, 0, 1, 1, 1, 1, 2};
        for (int i = 0; i < steps.length; i++) {
            Weaversgate x = withClass();
            patterns(x, "e 0 0, m 0 0, c 0 0");
            x.addAdvice(0, 'b', 0, 0, 0);
            x.addAdvice(0, 'b', 1, 0, 0);
            x.addAdvice(0, 'b', 2, 0, 0);
            due("places: no body", 0, () -> x.places(0, 5));
            for (int count = 1; count <= 8; count++) {
                steps(x, 0, 5, steps[i]);
                int places = 1 + count * each[i];
                due("places: " + count + " steps " + steps[i], places, () -> x.places(0, 5));
                due("places: the first is that of the run", 'y', () -> x.match(0, 5, 0, 0));
                due("places: the last one", each[i] == 0 ? 'y' : 'n', () -> x.match(0, 5, places - 1, 0));
                due("places: none behind it", ARGUMENT, () -> x.match(0, 5, places, 0));
            }
        }
        Weaversgate y = withClass();
        patterns(y, "m 0 0, c 0 0");
        y.addAdvice(0, 'b', 0, 0, 0);
        y.addAdvice(0, 'b', 1, 0, 0);
        steps(y, 0, 5, "m 0 0, m 0 0, m 0 0, m 0 0, m 0 0, m 0 0, m 0 0, m 0 0");
        for (int place = 1; place < 17; place++) {
            int number = place;
            due("places: 'm' first, at " + place, place % 2 == 1 ? 'y' : 'n', () -> y.match(0, 5, number, 0));
            due("places: 'c' behind, at " + place, place % 2 == 0 ? 'y' : 'n', () -> y.match(0, 5, number, 1));
        }
    }

    // ---- "'n' of 'h' is 'm' if a is not greater than that of the handler, and 'n' otherwise"

    private static void namesOfHandlers() {
        for (int handler = 0; handler < 4; handler++) {
            for (int name = 0; name < 6; name++) {
                Weaversgate x = withClass();
                x.addStep(0, 4, 'h', handler, 0);
                x.addPattern('n', name, 0);
                x.addAdvice(0, 'b', 0, 0, 0);
                due("n of h: " + name + " at " + handler, name <= handler ? 'm' : 'n', () -> x.match(0, 4, 1, 0));
                due("n of e: " + name, name == 4 ? 'y' : 'n', () -> x.match(0, 4, 0, 0));
            }
        }
    }

    // ---- "'y' if all of them are below a, 'n' if none is, 'm' otherwise"

    private static void classesOfObjects() {
        Weaversgate x = new Weaversgate();
        for (int type = 0; type < 6; type++) {
            x.addClass(type - 1);
        }
        steps(x, 0, 0, "m 3 0");
        for (int type = 0; type < 6; type++) {
            x.addPattern('t', type, 0);
            x.addAdvice(0, 'b', type, 0, 0);
        }
        dueRow("t: six find the body, from the first to the last", x, 0, "ymmmmm");
        dueRow("t: at 'm', that which is made", x, 1, "yyyynn");
        dueRow("t: at its call too", x, 2, "yyyynn");
        steps(x, 1, 0, "n 0 0");
        dueRow("t: the first one alone finds it", x, 0, "ynnnnn");
        dueRow("t: 'm' is as before", x, 1, "yyyynn");
        steps(x, 1, 1, "n 0 0");
        x.dropBody(1, 0);
        dueRow("t: six find it again", x, 0, "ymmmmm");
        steps(x, 5, 0, "n 0 0");
        dueRow("t: five of them", x, 0, "ymmmmn");
        Weaversgate y = withClass();
        steps(y, 0, 0, "n 0 0");
        for (int type = 0; type < 6; type++) {
            y.addPattern('t', type, 0);
            y.addAdvice(0, 'b', type, 0, 0);
        }
        dueRow("t: of classes that there are not", y, 0, "ynnnnn");
        ends("t: nor do they hold", y, 0, 0, 1, "r 1 b0:1 b0:1");
        y.addClass(-1);
        dueRow("t: a class beside changes nothing", y, 0, "ynnnnn");
        y.addClass(0);
        dueRow("t: a class below does", y, 0, "ynmnnn");
    }

    /** The verdicts of the advices 0 to 5 at a place of the method 0 of the class 0. */
    private static void dueRow(String what, Weaversgate x, int place, String want) {
        due(what, want, () -> {
            StringBuilder row = new StringBuilder();
            for (int advice = 0; advice < 6; advice++) {
                row.append(x.match(0, 0, place, advice));
            }
            return row.toString();
        });
    }

    // ---- residues, woven, sureShare and meanSteps of all that there can be

    /** Six classes with 36 bodies of eight 'm', and twelve advices of one pattern. */
    private static Weaversgate full(char kind) {
        Weaversgate x = new Weaversgate();
        for (int type = 0; type < 6; type++) {
            x.addClass(-1);
        }
        for (int body = 0; body < 36; body++) {
            for (int step = 0; step < 8; step++) {
                x.addStep(body / 6, body % 6, 'm', step % 6, body % 6);
            }
        }
        x.addPattern(kind, 0, 0);
        for (int advice = 0; advice < 12; advice++) {
            x.addAdvice(0, 'b', 0, 0, 0);
        }
        return x;
    }

    private static void allPairs() {
        int pairs = 36 * 17 * 12;
        Weaversgate asked = full('v');
        due("pairs: all are asked", pairs, asked::residues);
        due("pairs: none is woven", 0, asked::woven);
        due("pairs: none is sure", 0.0f, asked::sureShare);
        due("pairs: the mean of full bodies", 8.0, asked::meanSteps);
        asked.turn(11, false);
        due("pairs: those that are off do not count", 36 * 17 * 11, asked::residues);
        Weaversgate sure = full('e');
        due("pairs: none is asked", 0, sure::residues);
        due("pairs: the runs are woven", 36 * 12, sure::woven);
        due("pairs: all are sure, 'y' or 'n'", 1.0f, sure::sureShare);
        Weaversgate none = full('g');
        due("pairs: none of any", 0, none::woven);
        due("pairs: all are 'n', so sure", 1.0f, none::sureShare);
        Weaversgate one = withClass();
        patterns(one, "v 0 0, e 0 0");
        due("pairs: nothing at all", ARITHMETIC, one::sureShare);
        due("pairs: nothing at all", ARITHMETIC, one::meanSteps);
        steps(one, 0, 0, "n 0 0");
        due("pairs: no advice", ARITHMETIC, one::sureShare);
        due("pairs: no advice", 0, one::residues);
        due("pairs: no advice", 0, one::woven);
        due("pairs: one step in one body", 1.0, one::meanSteps);
        one.addAdvice(0, 'b', 0, 0, 0);
        due("pairs: one", 0.0f, one::sureShare);
        due("pairs: one", 1, one::residues);
        one.addAdvice(0, 'b', 1, 0, 0);
        due("pairs: two", 0.5f, one::sureShare);
        due("pairs: two", 1, one::woven);
        one.addAdvice(0, 'b', 1, 0, 0);
        due("pairs: three, divided as floats", 2.0f / 3.0f, one::sureShare);
        one.dropBody(0, 0);
        due("pairs: no place any more", ARITHMETIC, one::sureShare);
        due("pairs: no body any more", ARITHMETIC, one::meanSteps);
    }

    // ---- "asks, at a point with a place, only those advices that are on and 'm' there"; outside all that are on

    private static void whatIsAsked() {
        Weaversgate x = withClass();
        due("asked: no run", 0, x::asked);
        patterns(x, "v -99 0, e 0 0, c 0 0");
        for (int i = 0; i < 12; i++) {
            x.addAdvice(0, 'b', i % 3, 0, 0);
        }
        x.run(0, 0, 1);
        due("asked: all at the call from outside", 12, x::asked);
        steps(x, 0, 0, "n 0 0, t 0 99");
        x.run(0, 0, 1);
        due("asked: and four at the run of the body", 16, x::asked);
        x.runAsking(0, 0, 1);
        due("asked: all at both", 24, x::asked);
        for (int i = 0; i < 12; i += 3) {
            x.turn(i, false);
        }
        x.run(0, 0, 1);
        due("asked: those that are on, outside alone", 8, x::asked);
        due("asked: 'e' and 'c' act once each", 8, x::traceLength);
        Weaversgate deep = withClass();
        steps(deep, 0, 0, "c 0 0");
        patterns(deep, "v 0 0");
        deep.addAdvice(0, 'b', 0, 0, 0);
        deep.run(0, 0, 1);
        due("asked: not at a point that would begin when 20 go on", 20, deep::asked);
        deep.runAsking(0, 0, 1);
        due("asked: not then either", 20, deep::asked);
    }

    // ---- "It is given up, 'l', when a point would begin and 120 have begun"

    /** The method 0 of the class 0 begins 116 points and as many more as are told, and then does the last steps. */
    private static Weaversgate begun(int more, String last) {
        Weaversgate x = withClass();
        steps(x, 0, 5, "g 0 0, g 0 0, g 0 0, g 0 0, g 0 0, g 0 0, g 0 0, g 0 0");
        steps(x, 0, 4, "c 5 0, c 5 0, c 5 0, c 5 0, c 5 0, c 5 0, c 5 0, c 5 0");
        steps(x, 0, 3, "n 0 0");
        for (int i = 0; i < more; i++) {
            x.addStep(0, 3, 'g', 0, 0);
        }
        steps(x, 0, 2, "n 0 0");
        // c e, 82 of the method 4, 10 of each of the method 5, 2 of the method 3.
        steps(x, 0, 0, "c 4 0, c 5 0, c 5 0, c 5 0, c 3 0, " + last);
        return x;
    }

    private static void a121stPoint() {
        lastPoint("n 0 0", 4, "r 1", 120);
        lastPoint("g 0 0", 3, "r 1", 120);
        lastPoint("g 0 0", 4, "l", 120);
        lastPoint("s 0 0", 3, "r 1", 120);
        lastPoint("s 0 0", 4, "l", 120);
        lastPoint("c 1 0", 3, "x 4", 120);
        lastPoint("c 1 0", 4, "l", 120);
        lastPoint("c 2 0", 2, "r 1", 120);
        lastPoint("c 2 0", 3, "l", 120);
        lastPoint("m 0 1", 2, "x 4", 120);
        lastPoint("m 0 1", 3, "l", 120);
        lastPoint("m 0 1", 4, "l", 120);
        lastPoint("m 0 2", 1, "r 1", 120);
        lastPoint("m 0 2", 2, "l", 120);
        lastPoint("h 0 0, t 0 0", 3, "r 0", 120);
        lastPoint("h 0 0, t 0 0", 4, "l", 120);
        lastPoint("h 0 0, t 0 1", 4, "r 1", 120);
        for (int more = 3; more < 5; more++) {
            Weaversgate x = begun(more, "m 0 1");
            patterns(x, "m 0 0");
            x.addAdvice(0, 'b', 0, 0, 0);
            ends("120 points: 'm' may be the 120th, and acts", x, 0, 0, 1, more == 3 ? "l b0:1" : "l");
        }
        for (int more = 1; more < 3; more++) {
            // The call is gone on with twice: c e e.
            Weaversgate x = begun(more, "c 2 0");
            patterns(x, "c 0 0, n 2 0, & 0 1");
            x.addAdvice(0, 'r', 2, 1, 2);
            ends("120 points: gone on with twice", x, 0, 0, 1, more == 1 ? "r 3 r0:1" : "l r0:1");
            due("120 points: gone on with twice, begun", 120, x::points);
        }
    }

    private static void lastPoint(String last, int more, String end, int points) {
        Weaversgate x = begun(more, last);
        ends("120 points: " + (116 + more) + " and " + last, x, 0, 0, 1, end);
        due("120 points: begun with " + last, points, x::points);
        due("120 points: its result", end.equals("l") ? STATE : Integer.valueOf(end.substring(2)), x::result);
        due("120 points: sound", true, x::isSound);
    }

    // ---- ".. or 20 go on"

    /** As many bodies, each but the last one run inside the one ahead, so that twice as many points go on. */
    private static Weaversgate nested(int bodies, String last) {
        Weaversgate x = withClass();
        x.addClass(-1);
        for (int body = 0; body < bodies; body++) {
            if (body == bodies - 1) {
                steps(x, body / 6, body % 6, last);
            } else if (body == 5) {
                x.addStep(0, 5, 'm', 1, 0);
            } else {
                x.addStep(body / 6, body % 6, 'c', body % 6 + 1, 0);
            }
        }
        return x;
    }

    private static void a21stThatGoesOn() {
        // One 'm' has ended.
        deepest("n 5 0", 10, "r 6", 21);
        deepest("g 0 0", 9, "r 1", 20);
        deepest("g 0 0", 10, "l", 21);
        deepest("s 0 0", 9, "r 1", 20);
        deepest("s 0 0", 10, "l", 21);
        deepest("c 5 0", 9, "x 4", 20);
        deepest("c 5 0", 10, "l", 21);
        // The body of the class 0 that is found would make one more.
        deepest("m 0 5", 9, "l", 22);
        deepest("m 1 5", 9, "x 4", 21);
        deepest("m 1 5", 10, "l", 21);
        deepest("h 1 0, t 0 0", 9, "r 0", 20);
        deepest("h 1 0, t 0 0", 10, "l", 21);
        deepest("h 1 0, t 0 1", 10, "r 1", 21);
        deepest("t 3 0", 10, "x 3", 21);
        deepest("h 1 0", 10, "r 1", 21);
        deepest("g 0 0, g 0 0, s 0 0, s 0 0, n 4 0", 9, "r 5", 23);
        // Those that ended do not go on: eight 'g' behind one another.
        deepest("g 0 0, g 1 0, g 2 0, g 3 0, g 0 0, g 1 0, g 2 0, g 3 0", 9, "r 1", 27);
    }

    private static void deepest(String last, int bodies, String end, int points) {
        Weaversgate x = nested(bodies, last);
        ends("20 go on: " + 2 * bodies + " and " + last, x, 0, 0, 1, end);
        due("20 go on: begun with " + last, points, x::points);
        due("20 go on: its result", end.equals("l") ? STATE : Integer.valueOf(end.substring(2)), x::result);
        due("20 go on: sound", true, x::isSound);
    }

    // ---- ".. or when an advice would act and 400 have acted"

    /** Ahead of the call of the method 2, 396 and as many more act as are told; one more is around this call. */
    private static Weaversgate acted(int more, char kind, String last) {
        Weaversgate x = withClass();
        steps(x, 0, 5, "g 0 0, g 0 0, g 0 0, g 0 0, g 0 0, g 0 0, g 0 0, g 0 0");
        steps(x, 0, 4, "c 5 0, c 5 0, c 5 0, c 5 0, c 5 0");
        steps(x, 0, 3, "g 0 0, g 0 0, g 0 0, g 0 0");
        for (int i = 0; i < more; i++) {
            x.addStep(0, 3, 's', 0, 0);
        }
        steps(x, 0, 2, last);
        steps(x, 0, 0, "c 4 0, c 3 0, c 2 0, n 1 0");
        patterns(x, "g 0 0, s 0 0, c 0 0, n 2 0, & 2 3");
        // 's' makes a field what the value is, so 'g' is advised not to be done.
        for (int i = 0; i < 8; i++) {
            x.addAdvice(0, 'b', 0, 0, 0);
        }
        x.addAdvice(0, 'r', 0, 0, 0);
        x.addAdvice(0, 'b', 1, 0, 0);
        x.addAdvice(0, kind, 4, 0, 1);
        return x;
    }

    private static void a401stThatActs() {
        for (char kind : KINDS.toCharArray()) {
            String last = kind == 'x' ? "t 2 -9" : "n 1 0";
            Object result = kind == 'x' ? 2 : 3;
            Weaversgate x = acted(3, kind, last);
            due("400 act: " + kind + " is the 400th", kind == 'x' ? 'x' : 'r', () -> x.run(0, 0, 1));
            due("400 act: its result", result, x::result);
            due("400 act: the trace", 400, x::traceLength);
            due("400 act: its last letter", kind, () -> x.traceKind(399));
            due("400 act: its last advice", 10, () -> x.traceAdvice(399));
            due("400 act: no more", INDEX, () -> x.traceKind(400));
            due("400 act: asking", kind == 'x' ? 'x' : 'r', () -> x.runAsking(0, 0, 1));
            Weaversgate y = acted(4, kind, last);
            due("400 act: " + kind + " would be the 401st", 'l', () -> y.run(0, 0, 1));
            due("400 act: no result", STATE, y::result);
            due("400 act: the trace stays", 400, y::traceLength);
            due("400 act: its last letter is another one", 9, () -> y.traceAdvice(399));
            due("400 act: no 401st letter", INDEX, () -> y.traceKind(400));
            due("400 act: no 401st number", INDEX, () -> y.traceValue(400));
            due("400 act: no 401st advice", INDEX, () -> y.traceAdvice(400));
            boolean isAhead = kind == 'b' || kind == 'r';
            due("400 act: points begun with " + kind, 2 + 52 + 10 + (isAhead ? 1 : 2), y::points);
            due("400 act: asking gives up too", 'l', () -> y.runAsking(0, 0, 1));
            due("400 act: asking, the trace", 400, y::traceLength);
            due("400 act: sound", true, y::isSound);
            y.turn(10, false);
            due("400 act: without the last one", kind == 'x' ? 'x' : 'r', () -> y.run(0, 0, 1));
            due("400 act: exactly 400", 400, y::traceLength);
        }
    }

    // ---- "nothing is done then any more"

    private static void nothingIsDoneAnyMore() {
        for (char kind : "axf".toCharArray()) {
            Weaversgate deep = withClass();
            steps(deep, 0, 0, "c 0 0");
            patterns(deep, "c 0 0");
            deep.addAdvice(0, kind, 0, 0, 0);
            ends("given up: " + kind + " does not act behind it", deep, 0, 0, 1, "l");
        }
        Weaversgate handled = withClass();
        steps(handled, 0, 0, "h 3 0, c 0 0, n 1 0");
        ends("given up: no handler takes it", handled, 0, 0, 1, "l");
        due("given up: no 'h' began", 20, handled::points);
        Weaversgate twice = withClass();
        steps(twice, 0, 0, "c 1 0");
        steps(twice, 0, 1, "c 1 0");
        patterns(twice, "n 0 0, c 0 0, & 0 1");
        twice.addAdvice(0, 'r', 2, 0, 2);
        ends("given up: 'r' does not go on any more", twice, 0, 0, 1, "l r0:1");
        due("given up: no second run began", 20, twice::points);
        Weaversgate behind = acted(4, 'b', "n 1 0");
        behind.addAdvice(3, 'f', 4, 0, 0);
        due("given up: by one that acts ahead", 'l', () -> behind.run(0, 0, 1));
        due("given up: no other one acts", 0, () -> behind.acted('f'));
        // What is given up leaves nothing to the run behind it.
        behind.turn(10, false);
        behind.turn(11, false);
        for (int i = 0; i < 8; i++) {
            behind.turn(i, false);
        }
        due("given up: the next run ends", 'r', () -> behind.run(0, 2, 1));
        due("given up: with its own result", 2, behind::result);
        due("given up: and its own points", 2, behind::points);
        due("given up: and its own trace", 0, behind::traceLength);
    }

    // ---- "the result of the last run of either kind"; 0 without a run

    private static void lastRuns() {
        Weaversgate x = new Weaversgate();
        due("last run: none", STATE, x::result);
        due("last run: none, points", 0, x::points);
        due("last run: none, asked", 0, x::asked);
        due("last run: none, trace", 0, x::traceLength);
        due("last run: none, sum", 0L, x::traceSum);
        for (char kind : KINDS.toCharArray()) {
            due("last run: none, acted " + kind, 0, () -> x.acted(kind));
        }
        x.addClass(-1);
        due("last run: refused runs are none", ARGUMENT, () -> x.run(0, 0, 100));
        due("last run: still none", STATE, x::result);
        due("last run: isSound is none", true, x::isSound);
        due("last run: still none", STATE, x::result);
        steps(x, 0, 0, "n 1 0, t 2 50");
        steps(x, 0, 1, "c 1 0");
        for (int value : new int[] {-99, 0, 49}) {
            x.run(0, 0, value);
            due("last run: a result", value + 1, x::result);
            x.runAsking(0, 0, value);
            due("last run: a result, asking", value + 1, x::result);
        }
        x.run(0, 0, 99);
        due("last run: an exception", 2, x::result);
        x.runAsking(0, 1, 0);
        due("last run: given up, asking", STATE, x::result);
        due("last run: given up has points", 20, x::points);
        x.isSound();
        due("last run: isSound does not make one", STATE, x::result);
        due("last run: nor its points", 20, x::points);
        x.run(0, 0, -99);
        due("last run: a result again", -98, x::result);
        due("last run: its points", 2, x::points);
    }

    // ---- "the sum, over all indexes, of the index plus 1, times the number plus 131 times the advice"

    private static void traceSums() {
        Weaversgate x = withClass();
        patterns(x, "c 0 0");
        x.addAdvice(0, 'x', 0, 0, 0);
        x.run(0, 0, -99);
        due("sum: of one, the exception 4", 4L, x::traceSum);
        x.addAdvice(0, 'b', 0, 0, 0);
        x.run(0, 0, -99);
        due("sum: of two", (-99L + 131) + 2 * 4, x::traceSum);
        x.turn(0, false);
        x.turn(1, false);
        x.run(0, 0, 5);
        due("sum: of none", 0L, x::traceSum);
        Weaversgate all = acted(3, 'b', "n 1 0");
        all.run(0, 0, 99);
        long sum = 0;
        for (int i = 0; i < 400; i++) {
            sum += (i + 1L) * (all.traceValue(i) + 131L * all.traceAdvice(i));
        }
        long due = sum;
        due("sum: of 400", due, all::traceSum);
        due("sum: of 400 is more than that of one", true, () -> due > 400L * 99);
    }

    // ---- "True also if there is a ring, or no such class."

    private static void soundness() {
        due("sound: nothing", true, () -> new Weaversgate().isSound());
        due("sound: no body", true, () -> withClass().isSound());
        due("sound: a ring", true, () -> States.ring().isSound());
        due("sound: some", true, () -> States.some().isSound());
        due("sound: given up", true, () -> States.givenUp().isSound());
        due("sound: full", true, () -> full('v').isSound());
        Supplier<Weaversgate> last = () -> {
            Weaversgate x = new Weaversgate();
            for (int i = 0; i < 6; i++) {
                x.addClass(i - 1);
            }
            steps(x, 5, 0, "h 2 0, t 1 -1, n 5 0, m 5 1");
            patterns(x, "h 0 0, n 1 0, & 0 1, v 4 0, | 2 3");
            x.addAdvice(0, 'f', 4, 0, 0);
            x.addAdvice(1, 'r', 4, 3, 2);
            return x;
        };
        due("sound: the last class alone has a body", true, () -> last.get().isSound());
        Weaversgate x = last.get();
        x.run(5, 0, 3);
        String before = ended(x, 'x') + " " + x.points() + " " + x.asked();
        x.isSound();
        due("sound: the last run stays", before, () -> ended(x, 'x') + " " + x.points() + " " + x.asked());
    }
}
