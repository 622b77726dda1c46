import java.lang.reflect.InvocationTargetException;
import java.lang.reflect.Method;

/** A run of calls on one new object, each written as text and compared with the answer that is due. */
final class Run {
    private static final int MOST_CALLS = 512;
    private static int wrong = 0;
    private static int checked = 0;

    private final String name;
    private final PlainService service = new PlainService();
    private int calls = 0;
    private int refusals = 0;
    private int kept = 0;

    Run(String name) {
        this.name = name;
    }

    /** An event that is taken: its number is how many there were before. */
    Run event(int kind, int a, int b, int c, int second) {
        due("event(" + kind + ", " + a + ", " + b + ", " + c + ", " + second + ")", kept);
        kept++;
        return this;
    }

    Run due(String call, int want) {
        compare(call, answer(call), Integer.toString(want));
        return this;
    }

    Run unknown(String call) {
        return refuses(call, "IllegalArgumentException");
    }

    Run outside(String call) {
        return refuses(call, "IndexOutOfBoundsException");
    }

    Run notInState(String call) {
        return refuses(call, "IllegalStateException");
    }

    Run noRoom(String call) {
        return refuses(call, "UnsupportedOperationException");
    }

    /** What a refused call may have changed shows in the counts. */
    void end() {
        due("refused()", refusals);
        due("events()", kept);
    }

    private Run refuses(String call, String exception) {
        compare(call, answer(call), "throws." + exception);
        refusals++;
        return due("refused()", refusals);
    }

    private void compare(String call, String got, String want) {
        calls++;
        if (calls > MOST_CALLS) {
            report(name + ": more than " + MOST_CALLS + " calls");
        }
        check(name + ": " + call, got, want);
    }

    private String answer(String call) {
        int bracket = call.indexOf('(');
        String inside = call.substring(bracket + 1, call.length() - 1);
        String[] texts = inside.isEmpty() ? new String[0] : inside.split(", ");
        Object[] numbers = new Object[texts.length];
        Class<?>[] types = new Class<?>[texts.length];
        for (int i = 0; i < texts.length; i++) {
            numbers[i] = Integer.valueOf(texts[i]);
            types[i] = int.class;
        }
        try {
            Method method = PlainService.class.getMethod(call.substring(0, bracket), types);
            return String.valueOf(method.invoke(service, numbers));
        } catch (InvocationTargetException e) {
            return "throws." + e.getCause().getClass().getSimpleName();
        } catch (ReflectiveOperationException e) {
            return "no such call";
        }
    }

    static void check(String what, String got, String want) {
        checked++;
        if (!got.equals(want)) {
            report(what + " answered " + got + ", due is " + want);
        }
    }

    private static void report(String text) {
        wrong++;
        if (wrong <= 50) {
            System.out.println(text);
        }
    }

    static void close() {
        System.out.println(checked + " answers compared, " + wrong + " wrong");
        if (wrong != 0) {
            System.exit(1);
        }
    }
}
