import java.util.function.Function;
import java.util.function.Supplier;

/** What the tests that tell their answers by hand share. */
abstract class Checks {
    static final String INDEX = "IndexOutOfBoundsException";
    static final String ARGUMENT = "IllegalArgumentException";
    static final String STATE = "IllegalStateException";
    static final String ELEMENT = "NoSuchElementException";
    static final String ARITHMETIC = "ArithmeticException";

    private static int wrong = 0;
    private static int looked = 0;

    static void due(String what, Object want, Supplier<Object> call) {
        looked++;
        Object got = answer(call);
        if (!want.equals(got)) {
            wrong++;
            System.out.println(what + " answered " + got + ", due is " + want);
        }
    }

    static Object answer(Supplier<Object> call) {
        try {
            return call.get();
        } catch (RuntimeException e) {
            return e.getClass().getSimpleName();
        }
    }

    /** The call is refused, and the object is as one that never got it, now and in what it does later. */
    static void refuses(String what, String want, Supplier<Weaversgate> maker, Function<Weaversgate, Object> call) {
        Weaversgate x = maker.get();
        due(what, want, () -> call.apply(x));
        due(what + ", and has changed nothing", States.later(maker.get()), () -> States.later(x));
    }

    static void finish() {
        System.out.println(wrong == 0 ? looked + " answers are as due" : wrong + " answers are not as due");
        if (wrong != 0) {
            System.exit(1);
        }
    }

    /** Steps such as "n 2 0, c 1 0". */
    static void steps(Weaversgate x, int type, int method, String steps) {
        for (String step : steps.split(", ")) {
            String[] parts = step.split(" ");
            x.addStep(type, method, parts[0].charAt(0), Integer.parseInt(parts[1]), Integer.parseInt(parts[2]));
        }
    }

    /** Patterns such as "c 0 0, & 0 1", numbered in their order. */
    static void patterns(Weaversgate x, String patterns) {
        for (String pattern : patterns.split(", ")) {
            String[] parts = pattern.split(" ");
            x.addPattern(parts[0].charAt(0), Integer.parseInt(parts[1]), Integer.parseInt(parts[2]));
        }
    }

    /** Both kinds of run end with this letter, this result and this trace, such as "r 6 b0:5 a1:7". */
    static void ends(String what, Weaversgate x, int type, int method, int value, String end) {
        due(what + ", woven", end, () -> ended(x, x.run(type, method, value)));
        due(what + ", asking", end, () -> ended(x, x.runAsking(type, method, value)));
    }

    static String ended(Weaversgate x, char letter) {
        StringBuilder text = new StringBuilder().append(letter);
        if (letter != 'l') {
            text.append(' ').append(x.result());
        }
        for (int i = 0; i < x.traceLength(); i++) {
            text.append(' ').append(x.traceKind(i)).append(x.traceAdvice(i)).append(':').append(x.traceValue(i));
        }
        return text.toString();
    }

    static Weaversgate withClass() {
        Weaversgate x = new Weaversgate();
        x.addClass(-1);
        return x;
    }
}
