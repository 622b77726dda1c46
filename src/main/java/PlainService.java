/**
 * The plain side of a rescue service: one row of all that happened, told in any order, and answers as of any second
 * that are read from that row alone.
 */
public final class PlainService {
    private static final int STATE = 0;
    private static final int PLACE = 1;
    private static final int STREET = 2;
    private static final int CLOSED = 3;
    private static final int CALL = 4;
    private static final int SENT = 5;
    private static final int ENDED = 6;
    private static final int PERSON = 7;
    private static final int LISTENS = 8;
    private static final int SPEAKS = 9;

    private static final int EVENTS = 200;
    private static final int SECONDS = 100000;
    private static final int KINDS = 10;
    private static final int STATES = 4;
    private static final int UNITS = 10;
    private static final int CALLS = 10;
    private static final int NODES = 8;
    private static final int PERSONS = 20;
    private static final int SECTORS = 6;
    private static final int CHANNELS = 4;
    private static final int MOST_METRES = 999;
    private static final int HIGHEST_RANK = 9;
    private static final int HIGHEST_WORD = 99;
    private static final int MOST_TRIED = 5;

    private static final int NONE = -1;
    private static final int NOT_TRIED = -2;
    private static final int ALL_KINDS = -1;
    private static final int FREE = 0;
    private static final int NO_STREET = 0;

    private static final int CALL_NODE = 0;
    private static final int CALL_RANK = 1;
    private static final int CALL_OPEN = 2;
    private static final int CALL_SERVED = 3;

    private static final int BEST_RANKS = 0;
    private static final int BEST_WAYS = 1;
    private static final int BEST_GOING = 2;
    private static final int BEST_FIRST_CALL = 3;

    private final Row row;
    private final Scene scene;
    private final Ways ways;
    private final Sending sending;
    private int refusals;

    public PlainService() {
        row = new Row();
        scene = new Scene();
        ways = new Ways();
        sending = new Sending();
        refusals = 0;
    }

    public int event(int kind, int a, int b, int c, int second)
            throws IllegalArgumentException, IndexOutOfBoundsException, UnsupportedOperationException {
        needKnown(isFirstNumber(kind, a) && isSecondNumber(kind, a, b));
        needInRange(isThirdNumber(kind, c) && isSecond(second));
        needRoom(row.size < EVENTS);
        return row.put(kind, a, b, c, second);
    }

    public int state(int unit, int t) throws IllegalArgumentException, IndexOutOfBoundsException {
        needKnown(isBelow(unit, UNITS));
        needInRange(isSecond(t));
        scene.showAsOf(row, t);
        return scene.states[unit];
    }

    public int sent(int unit, int t) throws IllegalArgumentException, IndexOutOfBoundsException {
        needKnown(isBelow(unit, UNITS));
        needInRange(isSecond(t));
        scene.showAsOf(row, t);
        return scene.goals[unit];
    }

    public int way(int unit, int node, int t) throws IllegalArgumentException, IndexOutOfBoundsException {
        needKnown(isBelow(unit, UNITS) && isBelow(node, NODES));
        needInRange(isSecond(t));
        scene.showAsOf(row, t);
        ways.measure(scene);
        return ways.between(scene.places[unit], node);
    }

    public int call(int call, int what, int t)
            throws IllegalArgumentException, IndexOutOfBoundsException, IllegalStateException {
        needKnown(isBelow(call, CALLS) && isWithin(what, CALL_NODE, CALL_SERVED));
        needInRange(isSecond(t));
        scene.showAsOf(row, t);
        needState(scene.wasCalled(call));
        switch (what) {
            case CALL_NODE:
                return scene.callNodes[call];
            case CALL_RANK:
                return scene.callRanks[call];
            case CALL_OPEN:
                return scene.open[call] ? 1 : 0;
            default:
                return scene.isServed(call) ? 1 : 0;
        }
    }

    public int best(int what, int t) throws IllegalArgumentException, IndexOutOfBoundsException {
        needKnown(isBelow(what, BEST_FIRST_CALL + CALLS));
        needInRange(isSecond(t));
        scene.showAsOf(row, t);
        if (!sending.gather(scene)) {
            return NOT_TRIED;
        }
        ways.measure(scene);
        sending.search(scene, ways);
        switch (what) {
            case BEST_RANKS:
                return sending.bestRanks;
            case BEST_WAYS:
                return sending.bestWays;
            case BEST_GOING:
                return sending.going();
            default:
                return sending.bestUnits[what - BEST_FIRST_CALL];
        }
    }

    public int cover(int t) throws IndexOutOfBoundsException {
        needInRange(isSecond(t));
        scene.showAsOf(row, t);
        ways.measure(scene);
        int greatest = NONE;
        for (int node = 0; node < NODES; node++) {
            if (scene.hasStreet(node)) {
                int least = ways.leastOfFree(scene, node);
                if (least == NONE) {
                    return NONE;
                }
                greatest = Math.max(greatest, least);
            }
        }
        return greatest;
    }

    public int hears(int unit, int t) throws IllegalArgumentException, IndexOutOfBoundsException {
        needKnown(isBelow(unit, UNITS));
        needInRange(isSecond(t));
        scene.showAsOf(row, t);
        int channel = scene.channels[unit];
        if (channel == NONE) {
            return 0;
        }
        return row.wordFor(unit, channel, t);
    }

    public int sector(int person, int t) throws IllegalArgumentException, IndexOutOfBoundsException {
        needKnown(isBelow(person, PERSONS));
        needInRange(isSecond(t));
        scene.showAsOf(row, t);
        return scene.sectors[person];
    }

    public int missing(int sector, int seen, int i, int t) throws IllegalArgumentException, IndexOutOfBoundsException {
        needKnown(isBelow(sector, SECTORS));
        needInRange(i >= 0 && isSecond(t));
        scene.showAsOf(row, t);
        int before = 0;
        for (int person = 0; person < PERSONS; person++) {
            boolean isSeen = ((seen >> person) & 1) == 1;
            if (scene.sectors[person] == sector && !isSeen) {
                if (before == i) {
                    return person;
                }
                before++;
            }
        }
        return NONE;
    }

    public int count(int kind, int from, int to) throws IllegalArgumentException, IndexOutOfBoundsException {
        needKnown(isWithin(kind, ALL_KINDS, KINDS - 1));
        needInRange(from <= to);
        return row.tally(kind, from, to);
    }

    public int events() {
        return row.size;
    }

    public int refused() {
        return refusals;
    }

    private void needKnown(boolean known) {
        if (!known) {
            refusals++;
            throw new IllegalArgumentException("unknown number");
        }
    }

    private void needInRange(boolean inRange) {
        if (!inRange) {
            refusals++;
            throw new IndexOutOfBoundsException("outside of a range");
        }
    }

    private void needState(boolean inState) {
        if (!inState) {
            refusals++;
            throw new IllegalStateException("not in this state");
        }
    }

    private void needRoom(boolean room) {
        if (!room) {
            refusals++;
            throw new UnsupportedOperationException("no room");
        }
    }

    private static boolean isWithin(int number, int lowest, int highest) {
        return lowest <= number && number <= highest;
    }

    private static boolean isBelow(int number, int bound) {
        return 0 <= number && number < bound;
    }

    private static boolean isSecond(int t) {
        return isBelow(t, SECONDS);
    }

    private static boolean isFirstNumber(int kind, int a) {
        switch (kind) {
            case STATE:
            case PLACE:
            case SENT:
            case LISTENS:
            case SPEAKS:
                return isBelow(a, UNITS);
            case STREET:
            case CLOSED:
                return isBelow(a, NODES);
            case CALL:
            case ENDED:
                return isBelow(a, CALLS);
            case PERSON:
                return isBelow(a, PERSONS);
            default:
                return false;
        }
    }

    private static boolean isSecondNumber(int kind, int a, int b) {
        switch (kind) {
            case STATE:
                return isBelow(b, STATES);
            case PLACE:
            case CALL:
                return isBelow(b, NODES);
            case STREET:
            case CLOSED:
                return isBelow(b, NODES) && b != a;
            case SENT:
                return isBelow(b, CALLS);
            case ENDED:
                return true;
            case PERSON:
                return b == NONE || isBelow(b, SECTORS);
            case LISTENS:
                return b == NONE || isBelow(b, CHANNELS);
            case SPEAKS:
                return isBelow(b, CHANNELS);
            default:
                return false;
        }
    }

    private static boolean isThirdNumber(int kind, int c) {
        switch (kind) {
            case STREET:
                return isWithin(c, 1, MOST_METRES);
            case CALL:
                return isWithin(c, 1, HIGHEST_RANK);
            case SPEAKS:
                return isWithin(c, 1, HIGHEST_WORD);
            default:
                return true;
        }
    }

    /**
     * All events, kept in the order in which they count: by seconds, then kinds, then numbers. An event's own number
     * is not kept, since a new one has the highest and so stands behind all of its second and kind.
     */
    private static final class Row {
        final int[] kinds;
        final int[] as;
        final int[] bs;
        final int[] cs;
        final int[] seconds;
        int size;

        Row() {
            kinds = new int[EVENTS];
            as = new int[EVENTS];
            bs = new int[EVENTS];
            cs = new int[EVENTS];
            seconds = new int[EVENTS];
            size = 0;
        }

        /** The caller has seen that there is room. */
        int put(int kind, int a, int b, int c, int second) {
            int at = size;
            while (at > 0 && isBehind(at - 1, kind, second)) {
                move(at - 1, at);
                at--;
            }
            kinds[at] = kind;
            as[at] = a;
            bs[at] = b;
            cs[at] = c;
            seconds[at] = second;
            size++;
            return size - 1;
        }

        private boolean isBehind(int at, int kind, int second) {
            return seconds[at] > second || (seconds[at] == second && kinds[at] > kind);
        }

        private void move(int from, int to) {
            kinds[to] = kinds[from];
            as[to] = as[from];
            bs[to] = bs[from];
            cs[to] = cs[from];
            seconds[to] = seconds[from];
        }

        int tally(int kind, int from, int to) {
            int found = 0;
            for (int i = 0; i < size; i++) {
                boolean isKind = kind == ALL_KINDS || kinds[i] == kind;
                if (isKind && from <= seconds[i] && seconds[i] < to) {
                    found++;
                }
            }
            return found;
        }

        /** A listener who speaks on the channel is one of its speakers, so then nobody else is the only one. */
        int wordFor(int listener, int channel, int t) {
            int speaker = NONE;
            int word = 0;
            for (int i = 0; i < size; i++) {
                if (kinds[i] == SPEAKS && seconds[i] == t && bs[i] == channel) {
                    if (speaker != NONE && speaker != as[i]) {
                        return 0;
                    }
                    speaker = as[i];
                    word = cs[i];
                }
            }
            return speaker == listener ? 0 : word;
        }
    }

    /** What holds as of one second: made once and shown anew for each question, so that no question makes rows. */
    private static final class Scene {
        final int[] states;
        final int[] goals;
        final int[] places;
        final int[] channels;
        final int[] sectors;
        final int[] metres;
        final int[] callNodes;
        final int[] callRanks;
        final boolean[] open;

        Scene() {
            states = new int[UNITS];
            goals = new int[UNITS];
            places = new int[UNITS];
            channels = new int[UNITS];
            sectors = new int[PERSONS];
            metres = new int[NODES * NODES];
            callNodes = new int[CALLS];
            callRanks = new int[CALLS];
            open = new boolean[CALLS];
        }

        void showAsOf(Row row, int t) {
            clear();
            for (int i = 0; i < row.size && row.seconds[i] <= t; i++) {
                apply(row.kinds[i], row.as[i], row.bs[i], row.cs[i]);
            }
        }

        private void clear() {
            for (int unit = 0; unit < UNITS; unit++) {
                states[unit] = FREE;
                goals[unit] = NONE;
                places[unit] = 0;
                channels[unit] = NONE;
            }
            for (int call = 0; call < CALLS; call++) {
                callNodes[call] = NONE;
                callRanks[call] = 0;
                open[call] = false;
            }
            for (int person = 0; person < PERSONS; person++) {
                sectors[person] = NONE;
            }
            for (int pair = 0; pair < NODES * NODES; pair++) {
                metres[pair] = NO_STREET;
            }
        }

        /** The numbers of an event were looked at before it came into the row. */
        private void apply(int kind, int a, int b, int c) {
            switch (kind) {
                case STATE:
                    states[a] = b;
                    goals[a] = NONE;
                    break;
                case PLACE:
                    places[a] = b;
                    break;
                case STREET:
                    setStreet(a, b, c);
                    break;
                case CLOSED:
                    setStreet(a, b, NO_STREET);
                    break;
                case CALL:
                    callNodes[a] = b;
                    callRanks[a] = c;
                    open[a] = true;
                    break;
                case SENT:
                    goals[a] = b;
                    break;
                case ENDED:
                    open[a] = false;
                    break;
                case PERSON:
                    sectors[a] = b;
                    break;
                case LISTENS:
                    channels[a] = b;
                    break;
                default:
                    // A word is gone with its second, so it leaves nothing that holds.
                    break;
            }
        }

        private void setStreet(int a, int b, int length) {
            metres[a * NODES + b] = length;
            metres[b * NODES + a] = length;
        }

        boolean hasStreet(int node) {
            for (int other = 0; other < NODES; other++) {
                if (metres[node * NODES + other] != NO_STREET) {
                    return true;
                }
            }
            return false;
        }

        boolean isFree(int unit) {
            return states[unit] == FREE && goals[unit] == NONE;
        }

        boolean wasCalled(int call) {
            return callNodes[call] != NONE;
        }

        boolean isServed(int call) {
            for (int unit = 0; unit < UNITS; unit++) {
                if (goals[unit] == call) {
                    return true;
                }
            }
            return false;
        }

        boolean isWaiting(int call) {
            return open[call] && !isServed(call);
        }
    }

    /** The least sums of metres between all nodes of a scene. */
    private static final class Ways {
        // Above every way (7 streets of 999 metres at most), and so low that two of them can be added.
        private static final int FAR = 1000000;

        private final int[] sums;

        Ways() {
            sums = new int[NODES * NODES];
        }

        void measure(Scene scene) {
            for (int pair = 0; pair < NODES * NODES; pair++) {
                sums[pair] = scene.metres[pair] == NO_STREET ? FAR : scene.metres[pair];
            }
            for (int node = 0; node < NODES; node++) {
                sums[node * NODES + node] = 0;
            }
            for (int over = 0; over < NODES; over++) {
                shortenOver(over);
            }
        }

        private void shortenOver(int over) {
            for (int from = 0; from < NODES; from++) {
                for (int to = 0; to < NODES; to++) {
                    int sum = sums[from * NODES + over] + sums[over * NODES + to];
                    if (sum < sums[from * NODES + to]) {
                        sums[from * NODES + to] = sum;
                    }
                }
            }
        }

        int between(int from, int to) {
            int sum = sums[from * NODES + to];
            return sum >= FAR ? NONE : sum;
        }

        int leastOfFree(Scene scene, int node) {
            int least = NONE;
            for (int unit = 0; unit < UNITS; unit++) {
                if (scene.isFree(unit)) {
                    int length = between(scene.places[unit], node);
                    if (length != NONE && (least == NONE || length < least)) {
                        least = length;
                    }
                }
            }
            return least;
        }
    }

    /**
     * The search for the best sending. It tries calls and units by their numbers and no unit last, so of equally good
     * choices the first one by calls is met first, and only a better one takes its place.
     */
    private static final class Sending {
        private final int[] freeUnits;
        private final int[] waitingCalls;
        private final boolean[] taken;
        private final int[] triedUnits;
        private int freeCount;
        private int waitingCount;
        private int triedRanks;
        private int triedWays;

        final int[] bestUnits;
        int bestRanks;
        int bestWays;

        Sending() {
            freeUnits = new int[MOST_TRIED];
            waitingCalls = new int[MOST_TRIED];
            taken = new boolean[UNITS];
            triedUnits = new int[CALLS];
            bestUnits = new int[CALLS];
        }

        /** Answers whether there are few enough units and calls to be tried. */
        boolean gather(Scene scene) {
            freeCount = 0;
            waitingCount = 0;
            for (int unit = 0; unit < UNITS; unit++) {
                if (scene.isFree(unit)) {
                    if (freeCount == MOST_TRIED) {
                        return false;
                    }
                    freeUnits[freeCount] = unit;
                    freeCount++;
                }
            }
            for (int call = 0; call < CALLS; call++) {
                if (scene.isWaiting(call)) {
                    if (waitingCount == MOST_TRIED) {
                        return false;
                    }
                    waitingCalls[waitingCount] = call;
                    waitingCount++;
                }
            }
            return true;
        }

        void search(Scene scene, Ways ways) {
            for (int unit = 0; unit < UNITS; unit++) {
                taken[unit] = false;
            }
            for (int call = 0; call < CALLS; call++) {
                triedUnits[call] = NONE;
                bestUnits[call] = NONE;
            }
            triedRanks = 0;
            triedWays = 0;
            bestRanks = 0;
            bestWays = 0;
            tryFrom(0, scene, ways);
        }

        private void tryFrom(int depth, Scene scene, Ways ways) {
            if (depth >= waitingCount) {
                keepIfBetter();
                return;
            }
            int call = waitingCalls[depth];
            int node = scene.callNodes[call];
            int rank = scene.callRanks[call];
            for (int i = 0; i < freeCount; i++) {
                int unit = freeUnits[i];
                int length = ways.between(scene.places[unit], node);
                if (!taken[unit] && length != NONE) {
                    taken[unit] = true;
                    triedUnits[call] = unit;
                    triedRanks += rank;
                    triedWays += length;
                    tryFrom(depth + 1, scene, ways);
                    taken[unit] = false;
                    triedRanks -= rank;
                    triedWays -= length;
                }
            }
            triedUnits[call] = NONE;
            tryFrom(depth + 1, scene, ways);
        }

        private void keepIfBetter() {
            boolean better = triedRanks > bestRanks || (triedRanks == bestRanks && triedWays < bestWays);
            if (better) {
                bestRanks = triedRanks;
                bestWays = triedWays;
                for (int call = 0; call < CALLS; call++) {
                    bestUnits[call] = triedUnits[call];
                }
            }
        }

        int going() {
            int units = 0;
            for (int call = 0; call < CALLS; call++) {
                if (bestUnits[call] != NONE) {
                    units++;
                }
            }
            return units;
        }
    }
}
