/** Two methods, of which one calls the other, and two advices around the calls. */
public final class Mine {
    public static void main(String[] args) {
        Weaversgate gate = new Weaversgate();
        int type = gate.addClass(-1);                 // a class without a parent
        gate.addStep(type, 0, 'n', 2, 0);             // method 0: add 2 to the value,
        gate.addStep(type, 0, 'c', 1, 0);             //   then call method 1
        gate.addStep(type, 1, 'n', 3, 0);             // method 1: add 3

        int calls = gate.addPattern('c', 0, 0);       // holds for each call,
        int big = gate.addPattern('v', 6, 0);         //   if the value is greater than 6,
        int bigCalls = gate.addPattern('&', calls, big);
        gate.addAdvice(0, 'b', calls, 0, 0);          // acts ahead of each call
        gate.addAdvice(1, 'r', bigCalls, 10, 1);      // goes on once, with 10 more, at each big call

        System.out.println(gate.places(type, 0) + " places for points in method 0");
        System.out.println("at its call advice 0 is " + gate.match(type, 0, 1, 0)
                + ", advice 1 is " + gate.match(type, 0, 1, 1));
        System.out.println("the run ends with " + gate.run(type, 0, 5) + " and " + gate.result());
        for (int i = 0; i < gate.traceLength(); i++) {
            System.out.println(gate.traceKind(i) + " of advice " + gate.traceAdvice(i) + " at " + gate.traceValue(i));
        }
        System.out.println(gate.points() + " points, asked " + gate.asked() + " times");
        try {
            gate.run(type, 0, 100);
        } catch (IllegalArgumentException e) {
            System.out.println("a value is -99 to 99; the last run is still the one with " + gate.result());
        }
    }
}
