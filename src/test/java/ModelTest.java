import java.util.ArrayList;
import java.util.List;
import java.util.NoSuchElementException;

/**
 * Compares Weaversgate, call by call, with a model that is written apart from it: the model nests
 * Java calls and throws Java exceptions where the class keeps chains and letters. The calls come
 * from a row of numbers that is the same each time.
 */
public final class ModelTest {
    private static final int OBJECTS = 6000;
    private static final int CALLS = 512;

    private long seed;
    private int wrong;
    private final int[] ends = new int[128];
    private final int[] verdicts = new int[128];
    private int handled;

    public static void main(String[] args) {
        ModelTest test = new ModelTest();
        for (int i = 0; i < OBJECTS && test.wrong < 5; i++) {
            test.seed = 1000003L * i + 17;
            test.compare(i);
        }
        test.mustHaveSeenAll();
        System.out.println(test.wrong == 0 ? "the model answers alike" : "the model answers otherwise");
        if (test.wrong != 0) {
            System.exit(1);
        }
    }

    /** The comparison is worth little if the calls do not reach all ends and verdicts. */
    private void mustHaveSeenAll() {
        for (char c : "rxl".toCharArray()) {
            if (ends[c] < 1000) {
                report("too few runs end with " + c + ": " + ends[c]);
            }
        }
        for (char c : "ynm".toCharArray()) {
            if (verdicts[c] < 1000) {
                report("too few matches are " + c + ": " + verdicts[c]);
            }
        }
        if (handled < 1000) {
            report("too few exceptions are handled: " + handled);
        }
    }

    private void report(String text) {
        wrong++;
        System.out.println(text);
    }

    private int next(int bound) {
        seed = seed * 6364136223846793005L + 1442695040888963407L;
        return (int) ((seed >>> 33) % bound);
    }

    /** Mostly from low to high, now and then one beside. */
    private int near(int low, int high) {
        if (next(60) == 0) {
            return next(2) == 0 ? low - 1 : high + 1;
        }
        return low + next(high - low + 1);
    }

    private char letter(String letters) {
        return next(60) == 0 ? (char) next(300) : letters.charAt(next(letters.length()));
    }

    private void compare(int number) {
        Weaversgate real = new Weaversgate();
        Model model = new Model();
        StringBuilder calls = new StringBuilder();
        int building = 20 + next(120);
        for (int i = 0; i < CALLS; i++) {
            int[] call = i < building ? buildingCall() : anyCall();
            String due = answer(model, call);
            String got = answer(real, call);
            calls.append(java.util.Arrays.toString(call)).append(" -> ").append(due).append('\n');
            count(call, due);
            if (!due.equals(got)) {
                report("object " + number + ", call " + i + ": got " + got + ", due " + due + "\n" + calls);
                return;
            }
        }
        handled += model.handled;
    }

    private void count(int[] call, String due) {
        if (due.length() == 1 && due.charAt(0) < 128) {
            if (call[0] == 12) {
                verdicts[due.charAt(0)]++;
            } else if (call[0] == 15) {
                ends[due.charAt(0)]++;
            }
        }
    }

    private int[] buildingCall() {
        int what = next(20);
        if (what < 3) {
            return new int[] {0, next(5) == 0 ? -1 : near(0, 3)};
        }
        if (what < 12) {
            return stepCall();
        }
        if (what < 16) {
            return patternCall();
        }
        if (what < 19) {
            return adviceCall();
        }
        return new int[] {7, near(0, 3), near(0, 3), next(3)};
    }

    private int[] stepCall() {
        char step = letter("nccmgsthh");
        int a = near(0, step == 'c' ? 5 : step == 'm' ? 2 : 3);
        if (step == 'n') {
            a = next(30) == 0 ? near(-99, 99) : next(12) - 4;
        }
        int b = step == 'm' ? near(0, 5) : step == 't' ? (next(30) == 0 ? near(-99, 99) : next(20) - 5) : next(500);
        return new int[] {1, near(0, 3), next(4) == 0 ? near(0, 5) : near(0, 2), step, a, b};
    }

    private int[] patternCall() {
        char kind = letter("ceghsmntwvffff&&||!!");
        int a = next(3) == 0 ? near(0, 5) : next(8);
        if (kind == 'v') {
            a = next(10) == 0 ? near(-99, 99) : next(20) - 5;
        } else if ("f&|!".indexOf(kind) >= 0) {
            a = next(12);
        }
        return new int[] {4, kind, a, next(12)};
    }

    private int[] adviceCall() {
        return new int[] {5, near(0, 3), letter("baxfr"), next(20), next(8) == 0 ? near(-99, 99) : next(9) - 4, near(0, 2)};
    }

    private int[] anyCall() {
        int what = next(40);
        if (what < 4) {
            return buildingCall();
        }
        switch (what) {
            case 4: return new int[] {2, near(0, 5), near(0, 5)};
            case 5: return new int[] {3, near(0, 5), near(0, 5)};
            case 6: return new int[] {6, near(0, 11), next(2)};
            case 7: return new int[] {7, near(0, 3), near(0, 3), next(4)};
            case 8: return new int[] {8};
            case 9: return new int[] {9, near(0, 3)};
            case 10: return new int[] {10, near(0, 5), near(0, 5)};
            case 11: return new int[] {11, next(2)};
            case 12: return new int[] {18, next(2)};
            case 13: return new int[] {19, letter("baxfr")};
            case 14: return new int[] {20};
            case 15: case 16: case 17: case 18: return new int[] {12, near(0, 3), next(3), near(0, 8), near(0, 7)};
            default: break;
        }
        if (what < 32) {
            return new int[] {15, near(0, 3), next(6) == 0 ? near(0, 5) : next(3), next(5) == 0 ? near(-99, 99) : next(9), next(2)};
        }
        return new int[] {16, next(8), next(5) == 0 ? near(-1, 400) : next(6)};
    }

    private static String answer(Weaversgate x, int[] c) {
        try {
            switch (c[0]) {
                case 0: return "" + x.addClass(c[1]);
                case 1: return "" + x.addStep(c[1], c[2], (char) c[3], c[4], c[5]);
                case 2: return "" + x.dropBody(c[1], c[2]);
                case 3: return "" + x.finds(c[1], c[2]);
                case 4: return "" + x.addPattern((char) c[1], c[2], c[3]);
                case 5: return "" + x.addAdvice(c[1], (char) c[2], c[3], c[4], c[5]);
                case 6: return "" + x.turn(c[1], c[2] == 1);
                case 7: return "" + x.precede(c[1], c[2], c[3] == 1);
                case 8: return "" + x.isRing();
                case 9: return "" + x.aspectAt(c[1]);
                case 10: return "" + x.places(c[1], c[2]);
                case 11: return "" + (c[1] == 0 ? x.residues() : x.woven());
                case 12: return "" + x.match(c[1], c[2], c[3], c[4]);
                case 15: return "" + (c[4] == 0 ? x.run(c[1], c[2], c[3]) : x.runAsking(c[1], c[2], c[3]));
                case 16: return ofRun(x, c);
                case 18: return c[1] == 0 ? "" + x.sureShare() : "" + x.meanSteps();
                case 19: return "" + x.acted((char) c[1]);
                default: return "" + x.isSound();
            }
        } catch (RuntimeException e) {
            return e.getClass().getSimpleName();
        }
    }

    private static String ofRun(Weaversgate x, int[] c) {
        switch (c[1]) {
            case 0: return "" + x.result();
            case 1: return "" + x.points();
            case 2: return "" + x.asked();
            case 3: return "" + x.traceLength();
            case 4: return "" + x.traceSum();
            case 5: return "" + x.traceKind(c[2]);
            case 6: return "" + x.traceValue(c[2]);
            default: return "" + x.traceAdvice(c[2]);
        }
    }

    private static String answer(Model x, int[] c) {
        try {
            switch (c[0]) {
                case 0: return "" + x.addClass(c[1]);
                case 1: return "" + x.addStep(c[1], c[2], (char) c[3], c[4], c[5]);
                case 2: return "" + x.dropBody(c[1], c[2]);
                case 3: return "" + x.finds(c[1], c[2]);
                case 4: return "" + x.addPattern((char) c[1], c[2], c[3]);
                case 5: return "" + x.addAdvice(c[1], (char) c[2], c[3], c[4], c[5]);
                case 6: return "" + x.turn(c[1], c[2] == 1);
                case 7: return "" + x.precede(c[1], c[2], c[3] == 1);
                case 8: return "" + (x.order() == null);
                case 9: return "" + x.aspectAt(c[1]);
                case 10: return "" + x.placesOf(c[1], c[2]).size();
                case 11: return "" + x.pairs(c[1] == 0 ? "m" : "y");
                case 12: return "" + x.match(c[1], c[2], c[3], c[4]);
                case 15: return "" + x.run(c[1], c[2], c[3], c[4] == 1);
                case 16: return ofRun(x, c);
                case 18: return c[1] == 0 ? x.sureShare() : x.meanSteps();
                case 19: return "" + x.acted((char) c[1]);
                // Woven code acts exactly where the patterns say, so nothing else can be due.
                default: return "true";
            }
        } catch (RuntimeException e) {
            return e.getClass().getSimpleName();
        }
    }

    private static String ofRun(Model x, int[] c) {
        switch (c[1]) {
            case 0: return "" + x.result();
            case 1: return "" + x.begun;
            case 2: return "" + x.asked;
            case 3: return "" + x.trace.size();
            case 4: return "" + x.traceSum();
            case 5: return "" + x.advices.get(x.trace(c[2])[0]).kind;
            case 6: return "" + x.trace(c[2])[1];
            default: return "" + x.trace(c[2])[0];
        }
    }

    private static final class Thrown extends Exception {
        private static final long serialVersionUID = 1;
        final int number;

        Thrown(int number) {
            super(null, null, false, false);
            this.number = number;
        }
    }

    private static final class GivenUp extends Exception {
        private static final long serialVersionUID = 1;

        GivenUp() {
            super(null, null, false, false);
        }
    }

    private record Step(char kind, int a, int b) {
    }

    private record Pattern(char kind, int a, int b) {
    }

    private record Thing(int type, int[] fields) {
    }

    /** A place for points: the class, the method, the step, -1 for the run, and the kind. */
    private record Place(int type, int method, int step, char kind) {
    }

    private record Point(char kind, int name, Thing object, Place place, int value, boolean[] holds) {
    }

    private static final class Advice {
        int number;
        int aspect;
        char kind;
        int pattern;
        int more;
        int times;
        boolean isOn = true;
    }

    private static final class Model {
        final List<Integer> parents = new ArrayList<>();
        final List<List<List<Step>>> bodies = new ArrayList<>();
        final List<Pattern> patterns = new ArrayList<>();
        final List<Advice> advices = new ArrayList<>();
        final boolean[][] isAhead = new boolean[4][4];
        List<int[]> trace = new ArrayList<>();
        List<Point> going = new ArrayList<>();
        char end = ' ';
        int result;
        int begun;
        int asked;
        int handled;
        boolean asksAll;

        int addClass(int parent) {
            if (parent < -1 || parent >= parents.size()) {
                throw new IndexOutOfBoundsException();
            }
            if (parents.size() == 6) {
                throw new IllegalStateException();
            }
            parents.add(parent);
            List<List<Step>> methods = new ArrayList<>();
            for (int i = 0; i < 6; i++) {
                methods.add(new ArrayList<>());
            }
            bodies.add(methods);
            return parents.size() - 1;
        }

        void checkBody(int type, int method) {
            if (type < 0 || type >= parents.size()) {
                throw new IndexOutOfBoundsException();
            }
            if (method < 0 || method > 5) {
                throw new IllegalArgumentException();
            }
        }

        static void within(int number, int low, int high) {
            if (number < low || number > high) {
                throw new IllegalArgumentException();
            }
        }

        int addStep(int type, int method, char step, int a, int b) {
            checkBody(type, method);
            switch (step) {
                case 'n': within(a, -99, 99); break;
                case 'c': within(a, 0, 5); break;
                case 'm': within(a, 0, parents.size() - 1); within(b, 0, 5); break;
                case 't': within(a, 0, 3); within(b, -99, 99); break;
                case 'g': case 's': case 'h': within(a, 0, 3); break;
                default: throw new IllegalArgumentException();
            }
            List<Step> body = bodies.get(type).get(method);
            if (body.size() == 8) {
                throw new IllegalStateException();
            }
            body.add(new Step(step, a, b));
            return body.size();
        }

        int dropBody(int type, int method) {
            checkBody(type, method);
            int size = bodies.get(type).get(method).size();
            bodies.get(type).get(method).clear();
            return size;
        }

        int finds(int type, int method) {
            checkBody(type, method);
            return find(type, method);
        }

        int find(int type, int method) {
            if (type == -1 || !bodies.get(type).get(method).isEmpty()) {
                return type;
            }
            return find(parents.get(type), method);
        }

        boolean isBelow(int type, int other) {
            return type != -1 && (type == other || isBelow(parents.get(type), other));
        }

        int addPattern(char kind, int a, int b) {
            if ("ceghsmntwvf&|!".indexOf(kind) < 0) {
                throw new IllegalArgumentException();
            }
            if ("ntw".indexOf(kind) >= 0) {
                within(a, 0, 5);
            }
            if (kind == 'v') {
                within(a, -99, 99);
            }
            boolean hasA = "f&|!".indexOf(kind) >= 0;
            boolean hasB = "&|".indexOf(kind) >= 0;
            if (hasA && (a < 0 || a >= patterns.size()) || hasB && (b < 0 || b >= patterns.size())) {
                throw new NoSuchElementException();
            }
            if (patterns.size() == 24) {
                throw new IllegalStateException();
            }
            patterns.add(new Pattern(kind, a, b));
            return patterns.size() - 1;
        }

        int addAdvice(int aspect, char kind, int pattern, int more, int times) {
            within(aspect, 0, 3);
            within(more, -99, 99);
            within(times, 0, 2);
            if ("baxfr".indexOf(kind) < 0) {
                throw new IllegalArgumentException();
            }
            if (pattern < 0 || pattern >= patterns.size()) {
                throw new NoSuchElementException();
            }
            if (advices.size() == 12) {
                throw new IllegalStateException();
            }
            Advice advice = new Advice();
            advice.number = advices.size();
            advice.aspect = aspect;
            advice.kind = kind;
            advice.pattern = pattern;
            advice.more = more;
            advice.times = times;
            advices.add(advice);
            return advice.number;
        }

        Advice advice(int number) {
            if (number < 0 || number >= advices.size()) {
                throw new NoSuchElementException();
            }
            return advices.get(number);
        }

        boolean turn(int number, boolean isOn) {
            Advice advice = advice(number);
            boolean was = advice.isOn;
            advice.isOn = isOn;
            return was;
        }

        boolean precede(int first, int second, boolean ahead) {
            within(first, 0, 3);
            within(second, 0, 3);
            if (first == second) {
                throw new IllegalArgumentException();
            }
            boolean was = isAhead[first][second];
            isAhead[first][second] = ahead;
            return was;
        }

        /** The aspects in their order, or null if there is a ring. */
        List<Integer> order() {
            List<Integer> left = new ArrayList<>(List.of(0, 1, 2, 3));
            List<Integer> order = new ArrayList<>();
            while (!left.isEmpty()) {
                Integer found = null;
                for (Integer aspect : left) {
                    if (found == null && left.stream().noneMatch(o -> isAhead[o][aspect])) {
                        found = aspect;
                    }
                }
                if (found == null) {
                    return null;
                }
                left.remove(found);
                order.add(found);
            }
            return order;
        }

        int aspectAt(int rank) {
            within(rank, 0, 3);
            if (order() == null) {
                throw new IllegalStateException();
            }
            return order().get(rank);
        }

        List<Place> placesOf(int type, int method) {
            checkBody(type, method);
            List<Place> places = new ArrayList<>();
            List<Step> body = bodies.get(type).get(method);
            if (!body.isEmpty()) {
                places.add(new Place(type, method, -1, 'e'));
            }
            for (int i = 0; i < body.size(); i++) {
                char kind = body.get(i).kind;
                if ("cgsh".indexOf(kind) >= 0) {
                    places.add(new Place(type, method, i, kind));
                }
                if (kind == 'm') {
                    places.add(new Place(type, method, i, 'm'));
                    places.add(new Place(type, method, i, 'c'));
                }
            }
            return places;
        }

        char match(int type, int method, int place, int advice) {
            List<Place> places = placesOf(type, method);
            within(place, 0, places.size() - 1);
            return sure(advice(advice).pattern, places.get(place));
        }

        /** The verdicts, with n, m and y as -1, 0 and 1. */
        char sure(int pattern, Place place) {
            return "nmy".charAt(verdict(pattern, place) + 1);
        }

        int verdict(int number, Place place) {
            Pattern p = patterns.get(number);
            Step step = place.step < 0 ? null : bodies.get(place.type).get(place.method).get(place.step);
            switch (p.kind) {
                case 'n':
                    if (place.kind == 'h') {
                        return p.a <= step.a ? 0 : -1;
                    }
                    int name = step == null ? place.method : step.kind == 'm' && place.kind == 'c' ? step.b : step.a;
                    return name == p.a ? 1 : -1;
                case 't':
                    boolean some = false;
                    boolean all = true;
                    for (int type = 0; type < parents.size(); type++) {
                        boolean canBe = step != null && step.kind == 'm' ? type == step.a : find(type, place.method) == place.type;
                        if (canBe) {
                            some |= isBelow(type, p.a);
                            all &= isBelow(type, p.a);
                        }
                    }
                    return !some ? -1 : all ? 1 : 0;
                case 'w': return place.type == p.a ? 1 : -1;
                case 'v': return 0;
                case 'f': return Math.max(0, verdict(p.a, place));
                case '!': return -verdict(p.a, place);
                case '&': return Math.min(verdict(p.a, place), verdict(p.b, place));
                case '|': return Math.max(verdict(p.a, place), verdict(p.b, place));
                default: return place.kind == p.kind ? 1 : -1;
            }
        }

        int pairs(String verdicts) {
            int pairs = 0;
            for (int type = 0; type < parents.size(); type++) {
                for (int method = 0; method < 6; method++) {
                    for (Place place : placesOf(type, method)) {
                        for (Advice advice : advices) {
                            if (advice.isOn && verdicts.indexOf(sure(advice.pattern, place)) >= 0) {
                                pairs++;
                            }
                        }
                    }
                }
            }
            return pairs;
        }

        String sureShare() {
            if (pairs("ynm") == 0) {
                throw new ArithmeticException();
            }
            return "" + (float) pairs("yn") / (float) pairs("ynm");
        }

        String meanSteps() {
            int count = 0;
            int steps = 0;
            for (List<List<Step>> methods : bodies) {
                for (List<Step> body : methods) {
                    count += body.isEmpty() ? 0 : 1;
                    steps += body.size();
                }
            }
            if (count == 0) {
                throw new ArithmeticException();
            }
            return "" + (double) steps / (double) count;
        }

        char run(int type, int method, int value, boolean asking) {
            checkBody(type, method);
            within(value, -99, 99);
            if (order() == null) {
                throw new IllegalStateException();
            }
            begun = 0;
            asked = 0;
            asksAll = asking;
            trace = new ArrayList<>();
            going = new ArrayList<>();
            try {
                result = point('c', method, new Thing(type, new int[4]), null, value);
                end = 'r';
            } catch (Thrown e) {
                result = e.number;
                end = 'x';
            } catch (GivenUp e) {
                end = 'l';
            }
            return end;
        }

        int point(char kind, int name, Thing object, Place place, int value) throws Thrown, GivenUp {
            if (begun == 120 || going.size() == 20) {
                throw new GivenUp();
            }
            Point point = new Point(kind, name, object, place, value, new boolean[24]);
            for (int i = 0; i < patterns.size(); i++) {
                point.holds[i] = holds(patterns.get(i), point);
            }
            List<Advice> around = new ArrayList<>();
            for (int aspect : order()) {
                for (Advice advice : advices) {
                    if (advice.aspect == aspect && advice.isOn && takes(advice, point)) {
                        around.add(advice);
                    }
                }
            }
            begun++;
            going.add(point);
            try {
                return through(around, point, value);
            } finally {
                going.remove(going.size() - 1);
            }
        }

        boolean takes(Advice advice, Point point) {
            if (!asksAll && point.place != null && sure(advice.pattern, point.place) != 'm') {
                return sure(advice.pattern, point.place) == 'y';
            }
            asked++;
            return point.holds[advice.pattern];
        }

        boolean holds(Pattern p, Point point) {
            switch (p.kind) {
                case 'n': return point.name == p.a;
                case 't': return isBelow(point.object.type, p.a);
                case 'w': return point.place != null && point.place.type == p.a;
                case 'v': return point.value > p.a;
                case 'f': return point.holds[p.a] || going.stream().anyMatch(g -> g.holds[p.a]);
                case '&': return point.holds[p.a] && point.holds[p.b];
                case '|': return point.holds[p.a] || point.holds[p.b];
                case '!': return !point.holds[p.a];
                default: return point.kind == p.kind;
            }
        }

        void act(Advice advice, int value) throws GivenUp {
            if (trace.size() == 400) {
                throw new GivenUp();
            }
            trace.add(new int[] {advice.number, value});
        }

        int through(List<Advice> around, Point point, int value) throws Thrown, GivenUp {
            if (around.isEmpty()) {
                return what(point, value);
            }
            Advice advice = around.get(0);
            List<Advice> inner = around.subList(1, around.size());
            if (advice.kind == 'b') {
                act(advice, value);
                return through(inner, point, value);
            }
            if (advice.kind == 'r') {
                act(advice, value);
                int result = value;
                for (int i = 0; i < advice.times; i++) {
                    result = through(inner, point, result + advice.more);
                }
                return result;
            }
            int result;
            try {
                result = through(inner, point, value);
            } catch (Thrown e) {
                if (advice.kind != 'a') {
                    act(advice, e.number);
                }
                throw e;
            }
            if (advice.kind != 'x') {
                act(advice, result);
            }
            return result;
        }

        int what(Point point, int value) throws Thrown, GivenUp {
            switch (point.kind) {
                case 'c':
                    int holder = find(point.object.type, point.name);
                    if (holder == -1) {
                        throw new Thrown(4);
                    }
                    return point('e', point.name, point.object, new Place(holder, point.name, -1, 'e'), value);
                case 'e': return body(point, value);
                case 'g': return value + point.object.fields[point.name];
                case 's': point.object.fields[point.name] = value; return value;
                default: return value;
            }
        }

        int body(Point run, int told) throws Thrown, GivenUp {
            List<Step> body = bodies.get(run.place.type).get(run.place.method);
            List<Integer> handlers = new ArrayList<>();
            int value = told;
            for (int i = 0; i < body.size(); i++) {
                try {
                    value = step(run, body.get(i), i, value);
                    if (body.get(i).kind == 'h') {
                        handlers.add(0, i);
                    }
                } catch (Thrown e) {
                    Integer taker = null;
                    for (Integer handler : handlers) {
                        if (taker == null && e.number <= body.get(handler).a) {
                            taker = handler;
                        }
                    }
                    if (taker == null) {
                        throw e;
                    }
                    handled++;
                    Place place = new Place(run.place.type, run.place.method, taker, 'h');
                    value = point('h', e.number, run.object, place, 0);
                }
            }
            return value;
        }

        int step(Point run, Step step, int index, int value) throws Thrown, GivenUp {
            Place place = new Place(run.place.type, run.place.method, index, step.kind);
            switch (step.kind) {
                case 'n': return value + step.a;
                case 'c': case 'g': case 's': return point(step.kind, step.a, run.object, place, value);
                case 'm':
                    Thing made = new Thing(step.a, new int[4]);
                    int behind = point('m', step.a, made, place, value);
                    return point('c', step.b, made, new Place(place.type, place.method, index, 'c'), behind);
                case 't':
                    if (value > step.b) {
                        throw new Thrown(step.a);
                    }
                    return value;
                default: return value;
            }
        }

        int result() {
            if (end == ' ' || end == 'l') {
                throw new IllegalStateException();
            }
            return result;
        }

        int[] trace(int index) {
            if (index < 0 || index >= trace.size()) {
                throw new IndexOutOfBoundsException();
            }
            return trace.get(index);
        }

        long traceSum() {
            long sum = 0;
            for (int i = 0; i < trace.size(); i++) {
                sum += (i + 1) * (trace.get(i)[1] + 131L * trace.get(i)[0]);
            }
            return sum;
        }

        int acted(char kind) {
            if ("baxfr".indexOf(kind) < 0) {
                throw new IllegalArgumentException();
            }
            return (int) trace.stream().filter(t -> advices.get(t[0]).kind == kind).count();
        }
    }
}
