import java.util.function.Supplier;

/** Objects in states that refusals need, and all that can be seen of an object. */
final class States {
    private States() {
    }

    /** Some of everything: a class that has no body, a full body, an advice that is off, a run with a trace. */
    static Weaversgate some() {
        Weaversgate x = new Weaversgate();
        x.addClass(-1);
        x.addClass(0);
        x.addClass(-1);
        Checks.steps(x, 0, 0, "n 1 0, s 1 0, c 1 0, m 1 0");
        Checks.steps(x, 0, 1, "g 1 0, h 2 0, t 1 50, n 1 0, n 1 0, n 1 0, n 1 0, n 1 0");
        Checks.steps(x, 1, 0, "n 3 0");
        Checks.patterns(x, "c 0 0, v 5 0, & 0 1, n 1 0");
        x.addAdvice(2, 'b', 0, 0, 0);
        x.addAdvice(1, 'r', 2, 2, 2);
        x.addAdvice(0, 'f', 3, 0, 0);
        x.addAdvice(0, 'a', 0, 0, 0);
        x.turn(3, false);
        x.precede(2, 0, true);
        x.run(0, 0, 4);
        return x;
    }

    /** All that an object may have, and one full body. */
    static Weaversgate full() {
        Weaversgate x = new Weaversgate();
        for (int type = 0; type < 6; type++) {
            x.addClass(type - 1);
        }
        Checks.steps(x, 0, 0, "n 1 0, c 1 0, n 1 0, n 1 0, n 1 0, n 1 0, n 1 0, n 1 0");
        Checks.steps(x, 5, 1, "g 1 0, t 3 20");
        for (int i = 0; i < 24; i++) {
            x.addPattern("ceghsm".charAt(i % 6), 0, 0);
        }
        for (int i = 0; i < 12; i++) {
            x.addAdvice(i % 4, "baxfr".charAt(i % 5), i, i, 1);
        }
        x.run(5, 0, 1);
        return x;
    }

    /** A run stands, and behind it a ring was told. */
    static Weaversgate ring() {
        Weaversgate x = some();
        x.precede(0, 2, true);
        return x;
    }

    /** The last run was given up. */
    static Weaversgate givenUp() {
        Weaversgate x = some();
        x.addStep(1, 1, 'c', 1, 0);
        x.run(1, 1, 0);
        return x;
    }

    /** What can be seen now, and then behind runs and additions of all kinds. */
    static String later(Weaversgate x) {
        StringBuilder text = new StringBuilder(now(x));
        runs(x, text);
        for (int advice = 0; advice < 12; advice++) {
            int number = advice;
            tell(text, () -> x.turn(number, true));
        }
        for (int type = 0; type < 6; type++) {
            int number = type;
            tell(text, () -> x.addStep(number, 1, 'n', 1, 0));
            tell(text, () -> x.addStep(number, 0, 'g', 1, 0));
        }
        tell(text, () -> x.addPattern('e', 0, 0));
        tell(text, () -> x.addAdvice(3, 'b', 4, 0, 0));
        tell(text, () -> x.addClass(0));
        runs(x, text);
        for (int pair = 0; pair < 16; pair++) {
            int number = pair;
            tell(text, () -> x.precede(number / 4, number % 4, false));
        }
        runs(x, text);
        for (int body = 0; body < 36; body++) {
            int number = body;
            tell(text, () -> x.dropBody(number / 6, number % 6));
        }
        return text.toString();
    }

    private static void runs(Weaversgate x, StringBuilder text) {
        // Two classes are enough: an object is used for 512 calls, and this is all done on one.
        for (int type = 0; type < 2; type++) {
            int number = type;
            tell(text, () -> x.run(number, 0, 7));
            run(x, text);
            tell(text, () -> x.runAsking(number, 1, 7));
            run(x, text);
        }
    }

    private static String now(Weaversgate x) {
        StringBuilder text = new StringBuilder();
        for (int type = 0; type < 6; type++) {
            for (int method = 0; method < 6; method++) {
                bodies(x, type, method, text);
            }
        }
        for (int rank = 0; rank < 4; rank++) {
            int number = rank;
            tell(text, () -> x.aspectAt(number));
        }
        tell(text, x::isRing);
        tell(text, x::residues);
        tell(text, x::woven);
        tell(text, x::sureShare);
        tell(text, x::meanSteps);
        tell(text, x::isSound);
        run(x, text);
        return text.toString();
    }

    private static void bodies(Weaversgate x, int type, int method, StringBuilder text) {
        tell(text, () -> x.finds(type, method));
        Object places = Checks.answer(() -> x.places(type, method));
        text.append(places).append(' ');
        for (int place = 0; places instanceof Integer && place < (Integer) places; place++) {
            int number = place;
            for (int advice = 0; advice < 4; advice++) {
                int other = advice;
                tell(text, () -> x.match(type, method, number, other));
            }
        }
    }

    private static void run(Weaversgate x, StringBuilder text) {
        tell(text, x::result);
        tell(text, x::points);
        tell(text, x::asked);
        tell(text, x::traceLength);
        tell(text, x::traceSum);
        for (char kind : "baxfr".toCharArray()) {
            tell(text, () -> x.acted(kind));
        }
        tell(text, () -> x.traceKind(x.traceLength() - 1));
        tell(text, () -> x.traceValue(x.traceLength() - 1));
        tell(text, () -> x.traceAdvice(x.traceLength() - 1));
    }

    private static void tell(StringBuilder text, Supplier<Object> call) {
        text.append(Checks.answer(call)).append(' ');
    }
}
