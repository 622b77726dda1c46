/** Calls of the class by name, with the answer as text: a number, or throws. and the exception's name. */
final class Calls {
    private Calls() {
    }

    /** A call that is written as in Java, such as state(3, 10). */
    static String answer(PlainService service, String call) {
        int bracket = call.indexOf('(');
        String inside = call.substring(bracket + 1, call.length() - 1);
        String[] texts = inside.isEmpty() ? new String[0] : inside.split(", ");
        int[] numbers = new int[texts.length];
        for (int i = 0; i < texts.length; i++) {
            numbers[i] = Integer.parseInt(texts[i]);
        }
        return answer(service, call.substring(0, bracket), numbers);
    }

    static String answer(PlainService service, String method, int... p) {
        try {
            return Integer.toString(value(service, method, p));
        } catch (RuntimeException e) {
            return "throws." + e.getClass().getSimpleName();
        }
    }

    private static int value(PlainService service, String method, int[] p) {
        switch (method) {
            case "event":
                return service.event(p[0], p[1], p[2], p[3], p[4]);
            case "state":
                return service.state(p[0], p[1]);
            case "sent":
                return service.sent(p[0], p[1]);
            case "way":
                return service.way(p[0], p[1], p[2]);
            case "call":
                return service.call(p[0], p[1], p[2]);
            case "best":
                return service.best(p[0], p[1]);
            case "cover":
                return service.cover(p[0]);
            case "hears":
                return service.hears(p[0], p[1]);
            case "sector":
                return service.sector(p[0], p[1]);
            case "missing":
                return service.missing(p[0], p[1], p[2], p[3]);
            case "count":
                return service.count(p[0], p[1], p[2]);
            case "events":
                return service.events();
            case "refused":
                return service.refused();
            default:
                throw new AssertionError("the test asks for a call that there is not: " + method);
        }
    }
}
