import java.util.ArrayList;
import java.util.Comparator;
import java.util.List;
import java.util.TreeSet;

/** A second writing of the document, as near to its words as it goes and without a thought for speed. */
final class Oracle {
    private record Happened(int number, int kind, int a, int b, int c, int second) {
    }

    private interface Which {
        boolean is(Happened e);
    }

    private static final Comparator<Happened> ORDER = Comparator.comparingInt(Happened::second)
            .thenComparingInt(Happened::kind).thenComparingInt(Happened::number);

    private final List<Happened> all = new ArrayList<>();
    private int refused = 0;

    /** Answers as the class does, an exception as throws.Name. */
    String answer(String method, int[] p) {
        String refusal = refusal(method, p);
        if (refusal != null) {
            refused++;
            return "throws." + refusal;
        }
        return Integer.toString(value(method, p));
    }

    private int value(String method, int[] p) {
        switch (method) {
            case "event":
                all.add(new Happened(all.size(), p[0], p[1], p[2], p[3], p[4]));
                return all.size() - 1;
            case "state":
                return state(p[0], p[1]);
            case "sent":
                return sent(p[0], p[1]);
            case "way":
                return way(place(p[0], p[2]), p[1], p[2]);
            case "call":
                return call(p[0], p[1], p[2]);
            case "best":
                return best(p[0], p[1]);
            case "cover":
                return cover(p[0]);
            case "hears":
                return hears(p[0], p[1]);
            case "sector":
                return sector(p[0], p[1]);
            case "missing":
                return missing(p[0], p[1], p[2], p[3]);
            case "count":
                return (int) all.stream().filter(e -> (p[0] == -1 || e.kind == p[0]) && e.second >= p[1] && e.second < p[2])
                        .count();
            case "events":
                return all.size();
            default:
                return refused;
        }
    }

    private String refusal(String method, int[] p) {
        switch (method) {
            case "event":
                return eventRefusal(p[0], p[1], p[2], p[3], p[4]);
            case "state":
            case "sent":
            case "hears":
                return first(p[0] < 0 || p[0] > 9, badSecond(p[1]));
            case "way":
                return first(p[0] < 0 || p[0] > 9 || p[1] < 0 || p[1] > 7, badSecond(p[2]));
            case "call":
                String wrong = first(p[0] < 0 || p[0] > 9 || p[1] < 0 || p[1] > 3, badSecond(p[2]));
                return wrong == null && latest(p[2], e -> e.kind == 4 && e.a == p[0]) == null
                        ? "IllegalStateException" : wrong;
            case "best":
                return first(p[0] < 0 || p[0] > 12, badSecond(p[1]));
            case "cover":
                return first(false, badSecond(p[0]));
            case "sector":
                return first(p[0] < 0 || p[0] > 19, badSecond(p[1]));
            case "missing":
                return first(p[0] < 0 || p[0] > 5, p[2] < 0 || badSecond(p[3]));
            case "count":
                return first(p[0] < -1 || p[0] > 9, p[2] < p[1]);
            default:
                return null;
        }
    }

    private String eventRefusal(int kind, int a, int b, int c, int second) {
        if (kind < 0 || kind > 9) {
            return "IllegalArgumentException";
        }
        int[] highestA = {9, 9, 7, 7, 9, 9, 9, 19, 9, 9};
        int[] lowestB = {0, 0, 0, 0, 0, 0, Integer.MIN_VALUE, -1, -1, 0};
        int[] highestB = {3, 7, 7, 7, 7, 9, Integer.MAX_VALUE, 5, 3, 3};
        boolean badNumber = a < 0 || a > highestA[kind] || b < lowestB[kind] || b > highestB[kind]
                || ((kind == 2 || kind == 3) && a == b);
        boolean badC = (kind == 2 && (c < 1 || c > 999)) || (kind == 4 && (c < 1 || c > 9))
                || (kind == 9 && (c < 1 || c > 99));
        String wrong = first(badNumber, badC || badSecond(second));
        return wrong == null && all.size() >= 200 ? "UnsupportedOperationException" : wrong;
    }

    private static String first(boolean unknown, boolean outside) {
        return unknown ? "IllegalArgumentException" : outside ? "IndexOutOfBoundsException" : null;
    }

    private static boolean badSecond(int t) {
        return t < 0 || t > 99999;
    }

    private Happened latest(int t, Which which) {
        return all.stream().filter(e -> e.second <= t && which.is(e)).max(ORDER).orElse(null);
    }

    private int state(int unit, int t) {
        Happened e = latest(t, x -> x.kind == 0 && x.a == unit);
        return e == null ? 0 : e.b;
    }

    private int place(int unit, int t) {
        Happened e = latest(t, x -> x.kind == 1 && x.a == unit);
        return e == null ? 0 : e.b;
    }

    private int sent(int unit, int t) {
        Happened e = latest(t, x -> (x.kind == 5 || x.kind == 0) && x.a == unit);
        return e == null || e.kind == 0 ? -1 : e.b;
    }

    private int street(int one, int other, int t) {
        Happened e = latest(t, x -> (x.kind == 2 || x.kind == 3)
                && ((x.a == one && x.b == other) || (x.a == other && x.b == one)));
        return e == null || e.kind == 3 ? -1 : e.c;
    }

    private int[][] streets(int t) {
        int[][] metres = new int[8][8];
        for (int one = 0; one < 8; one++) {
            for (int other = 0; other < 8; other++) {
                metres[one][other] = street(one, other, t);
            }
        }
        return metres;
    }

    private int way(int from, int to, int t) {
        return walk(from, to, new boolean[8], streets(t));
    }

    /** Every path is walked: the least sum over all of them. */
    private static int walk(int at, int to, boolean[] been, int[][] metres) {
        if (at == to) {
            return 0;
        }
        int least = -1;
        been[at] = true;
        for (int next = 0; next < 8; next++) {
            if (!been[next] && metres[at][next] > 0) {
                int rest = walk(next, to, been, metres);
                if (rest >= 0 && (least < 0 || rest + metres[at][next] < least)) {
                    least = rest + metres[at][next];
                }
            }
        }
        been[at] = false;
        return least;
    }

    private int call(int call, int what, int t) {
        Happened called = latest(t, e -> e.kind == 4 && e.a == call);
        switch (what) {
            case 0:
                return called.b;
            case 1:
                return called.c;
            case 2:
                return isOpen(call, t) ? 1 : 0;
            default:
                return isServed(call, t) ? 1 : 0;
        }
    }

    private boolean isOpen(int call, int t) {
        Happened last = latest(t, e -> (e.kind == 4 || e.kind == 6) && e.a == call);
        return last != null && last.kind == 4;
    }

    private boolean isServed(int call, int t) {
        for (int unit = 0; unit < 10; unit++) {
            if (sent(unit, t) == call) {
                return true;
            }
        }
        return false;
    }

    private List<Integer> freeUnits(int t) {
        List<Integer> free = new ArrayList<>();
        for (int unit = 0; unit < 10; unit++) {
            if (state(unit, t) == 0 && sent(unit, t) == -1) {
                free.add(unit);
            }
        }
        return free;
    }

    /** Every map of calls to units or none is looked at, by counting through all of them from the last one down. */
    private int best(int what, int t) {
        List<Integer> units = freeUnits(t);
        List<Integer> calls = new ArrayList<>();
        for (int call = 0; call < 10; call++) {
            if (isOpen(call, t) && !isServed(call, t)) {
                calls.add(call);
            }
        }
        if (units.size() > 5 || calls.size() > 5) {
            return -2;
        }
        int choices = units.size() + 1;
        int maps = 1;
        for (int i = 0; i < calls.size(); i++) {
            maps *= choices;
        }
        int[][] lengths = lengths(units, calls, t);
        int[] bestMap = null;
        int[] bestKey = null;
        for (int code = maps - 1; code >= 0; code--) {
            int[] map = new int[calls.size()];
            int rest = code;
            for (int i = 0; i < map.length; i++) {
                map[i] = rest % choices;
                rest /= choices;
            }
            int[] key = key(map, units, calls, lengths, t);
            if (key != null && (bestKey == null || isBefore(key, bestKey))) {
                bestKey = key;
                bestMap = map;
            }
        }
        if (what == 0) {
            return -bestKey[0];
        }
        if (what == 1) {
            return bestKey[1];
        }
        int going = 0;
        int chosen = -1;
        for (int i = 0; i < bestMap.length; i++) {
            int unit = bestMap[i] == units.size() ? -1 : units.get(bestMap[i]);
            going += unit == -1 ? 0 : 1;
            chosen = calls.get(i) == what - 3 ? unit : chosen;
        }
        return what == 2 ? going : chosen;
    }

    private int[][] lengths(List<Integer> units, List<Integer> calls, int t) {
        int[][] lengths = new int[units.size()][calls.size()];
        for (int u = 0; u < units.size(); u++) {
            for (int c = 0; c < calls.size(); c++) {
                lengths[u][c] = way(place(units.get(u), t), call(calls.get(c), 0, t), t);
            }
        }
        return lengths;
    }

    /** The ranks (more is before less), the ways, and the units call by call; null when it is no sending. */
    private int[] key(int[] map, List<Integer> units, List<Integer> calls, int[][] lengths, int t) {
        int[] key = new int[2 + map.length];
        TreeSet<Integer> taken = new TreeSet<>();
        for (int i = 0; i < map.length; i++) {
            key[2 + i] = map[i];
            if (map[i] < units.size()) {
                if (!taken.add(map[i]) || lengths[map[i]][i] < 0) {
                    return null;
                }
                key[1] += lengths[map[i]][i];
                key[0] -= call(calls.get(i), 1, t);
            }
        }
        return key;
    }

    private static boolean isBefore(int[] one, int[] other) {
        for (int i = 0; i < one.length; i++) {
            if (one[i] != other[i]) {
                return one[i] < other[i];
            }
        }
        return false;
    }

    private int cover(int t) {
        int[][] metres = streets(t);
        int greatest = -1;
        for (int node = 0; node < 8; node++) {
            boolean hasStreet = false;
            for (int other = 0; other < 8; other++) {
                hasStreet |= metres[node][other] > 0;
            }
            if (hasStreet) {
                int least = Integer.MAX_VALUE;
                for (int unit : freeUnits(t)) {
                    int length = walk(place(unit, t), node, new boolean[8], metres);
                    least = length >= 0 && length < least ? length : least;
                }
                if (least == Integer.MAX_VALUE) {
                    return -1;
                }
                greatest = Math.max(greatest, least);
            }
        }
        return greatest;
    }

    private int hears(int unit, int t) {
        Happened listens = latest(t, e -> e.kind == 8 && e.a == unit);
        if (listens == null || listens.b == -1) {
            return 0;
        }
        TreeSet<Integer> speakers = new TreeSet<>();
        for (Happened e : all) {
            if (e.kind == 9 && e.second == t && e.b == listens.b) {
                speakers.add(e.a);
            }
        }
        if (speakers.size() != 1 || speakers.contains(unit)) {
            return 0;
        }
        return latest(t, e -> e.kind == 9 && e.second == t && e.b == listens.b).c;
    }

    private int sector(int person, int t) {
        Happened e = latest(t, x -> x.kind == 7 && x.a == person);
        return e == null ? -1 : e.b;
    }

    private int missing(int sector, int seen, int i, int t) {
        List<Integer> persons = new ArrayList<>();
        for (int person = 0; person < 20; person++) {
            if (sector(person, t) == sector && (seen & (1 << person)) == 0) {
                persons.add(person);
            }
        }
        return i < persons.size() ? persons.get(i) : -1;
    }
}
