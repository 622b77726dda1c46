import java.util.Arrays;
import java.util.Random;

/** Made-up runs, the same in every start of the test, each call compared with the oracle's answer. */
public final class RandomRunsTest {
    private static final int RUNS = 400;
    private static final int CALLS = 512;
    private static final String[] ASKED = {"state", "sent", "way", "call", "best", "best", "best", "cover", "hears", "hears",
        "sector", "missing", "count", "events", "refused"};

    private final Random random;
    private final int seconds;
    private final int units;
    private final int wrongOf;
    private final int eventShare;

    private RandomRunsTest(int seed) {
        random = new Random(seed);
        // Few seconds bring many events into the same one, where the order of kinds and numbers decides.
        seconds = new int[] {1, 3, 10, 60, 100000}[random.nextInt(5)];
        units = new int[] {3, 6, 10}[random.nextInt(3)];
        wrongOf = new int[] {15, 60, 1000000}[random.nextInt(3)];
        eventShare = new int[] {20, 40, 70}[random.nextInt(3)];
    }

    public static void main(String[] args) {
        for (int seed = 0; seed < RUNS; seed++) {
            new RandomRunsTest(seed).run(seed);
        }
        Run.close();
    }

    private void run(int seed) {
        PlainService service = new PlainService();
        Oracle oracle = new Oracle();
        int calls = 0;
        // With all units free no sending is tried, so most runs begin with some of them off.
        for (int unit = random.nextInt(8); unit < 10; unit++) {
            compare(seed, service, oracle, "event", new int[] {0, unit, 2, 0, 0});
            calls++;
        }
        for (; calls < CALLS; calls++) {
            if (random.nextInt(100) < eventShare) {
                compare(seed, service, oracle, "event", event());
            } else {
                String method = ASKED[random.nextInt(ASKED.length)];
                compare(seed, service, oracle, method, question(method));
            }
        }
    }

    private static void compare(int seed, PlainService service, Oracle oracle, String method, int[] p) {
        String got = Calls.answer(service, method, p);
        Run.check("seed " + seed + ": " + method + Arrays.toString(p), got, oracle.answer(method, p));
    }

    private int[] event() {
        int kind = kind();
        int[] p = {kind, random.nextInt(units), random.nextInt(8), 1 + random.nextInt(3), random.nextInt(seconds)};
        switch (kind) {
            case 0:
                p[2] = random.nextInt(3) == 0 ? random.nextInt(4) : 0;
                break;
            case 2:
            case 3:
                p[1] = random.nextInt(8);
                p[2] = (p[1] + 1 + random.nextInt(7)) % 8;
                p[3] = 1 + random.nextInt(random.nextBoolean() ? 4 : 999);
                break;
            case 5:
                p[2] = random.nextInt(10);
                break;
            case 7:
                p[1] = random.nextInt(20);
                p[2] = random.nextInt(7) - 1;
                break;
            case 8:
                p[2] = random.nextInt(5) - 1;
                break;
            case 9:
                p[2] = random.nextInt(4);
                p[3] = 1 + random.nextInt(99);
                break;
            default:
                break;
        }
        return spoiled(p);
    }

    private int kind() {
        int[] kinds = {0, 1, 1, 2, 2, 2, 2, 3, 4, 4, 4, 5, 6, 7, 7, 8, 8, 9, 9, 9};
        return kinds[random.nextInt(kinds.length)];
    }

    private int[] question(String method) {
        int t = random.nextInt(seconds);
        int unit = random.nextInt(10);
        switch (method) {
            case "way":
                return spoiled(new int[] {unit, random.nextInt(8), t});
            case "call":
                return spoiled(new int[] {unit, random.nextInt(4), t});
            case "best":
                return spoiled(new int[] {random.nextInt(13), t});
            case "cover":
                return spoiled(new int[] {t});
            case "sector":
                return spoiled(new int[] {random.nextInt(20), t});
            case "missing":
                return spoiled(new int[] {random.nextInt(6), random.nextInt() & random.nextInt(), random.nextInt(3), t});
            case "count":
                return spoiled(new int[] {random.nextInt(11) - 1, random.nextInt(seconds), random.nextInt(seconds + 1)});
            case "events":
            case "refused":
                return new int[0];
            default:
                return spoiled(new int[] {unit, t});
        }
    }

    /** Now and then one or two numbers become ones at or beyond an edge. */
    private int[] spoiled(int[] p) {
        int[] edges = {-2, -1, 0, 3, 4, 5, 6, 7, 8, 9, 10, 12, 13, 19, 20, 99, 100, 999, 1000, 99999, 100000,
            Integer.MAX_VALUE, Integer.MIN_VALUE};
        for (int i = 0; i < 2; i++) {
            if (random.nextInt(wrongOf) == 0) {
                p[random.nextInt(p.length)] = edges[random.nextInt(edges.length)];
            }
        }
        return p;
    }
}
