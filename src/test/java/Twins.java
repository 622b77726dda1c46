import java.util.List;

/** Two new objects with the same events, one of which also had a refused call: all else that they tell must be alike. */
final class Twins {
    private static final int MOST_CALLS = 512;

    private final List<String> events;
    private final String refusedCall;
    private int calls;

    Twins(List<String> events, String refusedCall) {
        this.events = events;
        this.refusedCall = refusedCall;
    }

    /** Some seconds at which a change would show: the first, the last, and the one of the newest event. */
    void compare(String name, int newest) {
        int[] seconds = {0, newest, 99999};
        for (int t : seconds) {
            Run.check(name + ": as of " + t + " behind the refused " + refusedCall, told(true, t), told(false, t));
        }
    }

    private String told(boolean withRefused, int t) {
        PlainService service = new PlainService();
        calls = 0;
        for (String event : events) {
            ask(service, event);
        }
        if (withRefused) {
            ask(service, refusedCall);
        }
        int before = withRefused ? 1 : 0;
        Run.check(refusedCall + " is counted", ask(service, "refused()"), Integer.toString(before));
        String told = everything(service, t);
        if (calls > MOST_CALLS) {
            throw new AssertionError("the twins ask too much: " + calls);
        }
        return told;
    }

    private String everything(PlainService service, int t) {
        StringBuilder told = new StringBuilder(ask(service, "events()"));
        for (int unit = 0; unit <= 9; unit++) {
            told.append(' ').append(ask(service, "state", unit, t)).append(' ').append(ask(service, "sent", unit, t));
            told.append(' ').append(ask(service, "hears", unit, t));
            for (int node = 0; node <= 7; node++) {
                told.append(' ').append(ask(service, "way", unit, node, t));
            }
        }
        for (int call = 0; call <= 9; call++) {
            for (int what = 0; what <= 3; what++) {
                told.append(' ').append(ask(service, "call", call, what, t));
            }
        }
        for (int what = 0; what <= 12; what++) {
            told.append(' ').append(ask(service, "best", what, t));
        }
        for (int person = 0; person <= 19; person++) {
            told.append(' ').append(ask(service, "sector", person, t));
        }
        for (int sector = 0; sector <= 5; sector++) {
            told.append(' ').append(ask(service, "missing", sector, 0, 0, t));
        }
        for (int kind = -1; kind <= 9; kind++) {
            told.append(' ').append(ask(service, "count", kind, 0, 100000));
        }
        return told.append(' ').append(ask(service, "cover", t)).toString();
    }

    private String ask(PlainService service, String call) {
        calls++;
        return Calls.answer(service, call);
    }

    private String ask(PlainService service, String method, int... p) {
        calls++;
        return Calls.answer(service, method, p);
    }
}
