import java.util.ArrayList;
import java.util.List;

/** A run of calls on one new object, each written as text and compared with the answer that is due. */
final class Run {
    private static final int MOST_CALLS = 512;
    private static int wrong = 0;
    private static int checked = 0;

    private final String name;
    private final PlainService service = new PlainService();
    private final List<String> events = new ArrayList<>();
    private int calls = 0;
    private int refusals = 0;
    private int newest = 0;

    Run(String name) {
        this.name = name;
    }

    /** An event that is taken: its number is how many there were before. */
    Run event(int kind, int a, int b, int c, int second) {
        String call = "event(" + kind + ", " + a + ", " + b + ", " + c + ", " + second + ")";
        due(call, events.size());
        events.add(call);
        newest = second;
        return this;
    }

    Run due(String call, int want) {
        compare(call, want);
        return this;
    }

    /** The same answer for the first number from one to another, as in state(#, 10). */
    Run dueForEach(String call, int from, int to, int want) {
        for (int number = from; number <= to; number++) {
            due(call.replace("#", Integer.toString(number)), want);
        }
        return this;
    }

    Run unknown(String call) {
        return refuses(call, "IllegalArgumentException");
    }

    Run outside(String call) {
        return refuses(call, "IndexOutOfBoundsException");
    }

    Run notInState(String call) {
        return refuses(call, "IllegalStateException");
    }

    Run noRoom(String call) {
        return refuses(call, "UnsupportedOperationException");
    }

    /** The first numbers that are not known, on both sides, and the ones farthest from them; # is the number's place. */
    Run unknownBeside(String call, int lowest, int highest) {
        for (int number : beside(lowest, highest)) {
            unknown(call.replace("#", Integer.toString(number)));
        }
        return this;
    }

    Run outsideBeside(String call, int lowest, int highest) {
        for (int number : beside(lowest, highest)) {
            outside(call.replace("#", Integer.toString(number)));
        }
        return this;
    }

    private static int[] beside(int lowest, int highest) {
        return new int[] {lowest - 1, highest + 1, Integer.MIN_VALUE, Integer.MAX_VALUE};
    }

    void end() {
        due("refused()", refusals);
        due("events()", events.size());
    }

    private Run refuses(String call, String exception) {
        compare(call, "throws." + exception);
        refusals++;
        due("refused()", refusals);
        new Twins(events, call).compare(name, newest);
        return this;
    }

    private void compare(String call, Object want) {
        calls++;
        if (calls > MOST_CALLS) {
            report(name + ": more than " + MOST_CALLS + " calls");
        }
        check(name + ": " + call, Calls.answer(service, call), want.toString());
    }

    static void check(String what, String got, String want) {
        checked++;
        if (!got.equals(want)) {
            report(what + " answered " + got + ", due is " + want);
        }
    }

    private static void report(String text) {
        wrong++;
        if (wrong <= 50) {
            System.out.println(text);
        }
    }

    static void close() {
        System.out.println(checked + " answers compared, " + wrong + " wrong");
        if (wrong != 0) {
            System.exit(1);
        }
    }
}
