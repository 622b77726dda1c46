/**
 * The sentences of promises 12 and 14, and of the terms on refusals, that name a boundary case: a test for each, under
 * the sentence's own words. Behind every refused call Run looks whether it was counted and whether all else is as it
 * was.
 */
public final class CountEdgesTest extends Words {
    private CountEdgesTest() {
    }

    public static void main(String[] args) {
        ofAKindOrOfAll();
        fromASecondToAnother();
        secondOneBelowTheFirst();
        secondsWithoutEvents();
        fullCount();
        eachIsCounted();
        allCallsButRefused();
        unknownBeforeOutside();
        outsideBeforeNotInState();
        beforeNoRoom();
        eachWrongNumberOfAnEvent();
        refusedChangesNothing();
        Run.close();
    }

    private static void ofAKindOrOfAll() {
        Run run = new Run("of a kind (-1: of all); no such kind");
        run.unknownBeside("count(#, 0, 0)", -1, 9).dueForEach("count(#, 0, 100000)", -1, 9, 0);
        for (int kind = 0; kind <= 9; kind++) {
            run.event(kind, 0, 1, 1, 5).due("count(" + kind + ", 0, 100000)", 1).due("count(-1, 0, 100000)", kind + 1);
        }
        run.dueForEach("count(#, 5, 6)", 0, 9, 1).due("count(-1, 5, 6)", 10).unknownBeside("count(#, 5, 6)", -1, 9);
        run.end();
    }

    private static void fromASecondToAnother() {
        Run run = new Run("from a second to another one (itself not)");
        run.event(ENDED, 0, 0, 0, 11).event(ENDED, 0, 0, 0, 10).event(ENDED, 0, 0, 0, 12).event(STATE, 0, 0, 0, 11);
        for (int kind = -1; kind <= 6; kind += 7) {
            int atEleven = kind == -1 ? 2 : 1;
            run.due("count(" + kind + ", 10, 11)", 1).due("count(" + kind + ", 11, 12)", atEleven);
            run.due("count(" + kind + ", 12, 13)", 1).due("count(" + kind + ", 13, 14)", 0);
            run.due("count(" + kind + ", 9, 10)", 0).due("count(" + kind + ", 10, 12)", 1 + atEleven);
            run.due("count(" + kind + ", 10, 13)", 2 + atEleven).due("count(" + kind + ", 11, 13)", 1 + atEleven);
            run.due("count(" + kind + ", 10, 10)", 0).due("count(" + kind + ", 11, 11)", 0);
        }
        run.event(PLACE, 0, 0, 0, 0).event(PLACE, 0, 0, 0, 99999).due("count(1, 0, 1)", 1).due("count(1, 0, 0)", 0);
        run.due("count(1, 0, 99999)", 1).due("count(1, 0, 100000)", 2).due("count(1, 99999, 100000)", 1);
        run.due("count(1, 1, 99999)", 0).due("count(1, 1, 100000)", 1).due("count(1, 99999, 99999)", 0);
        run.end();
    }

    private static void secondOneBelowTheFirst() {
        Run run = new Run("the second one is below the first");
        run.event(PLACE, 0, 0, 0, 5);
        run.outside("count(1, 6, 5)").outside("count(-1, 1, 0)").outside("count(1, 0, -1)").outside("count(1, -1, -2)");
        run.outside("count(1, 100000, 99999)").outside("count(1, 2147483647, 2147483646)");
        run.outside("count(1, -2147483647, -2147483648)").outside("count(1, 2147483647, -2147483648)");
        run.due("count(1, 5, 5)", 0).due("count(1, 5, 6)", 1).due("count(1, 4, 5)", 0);
        run.end();
    }

    private static void secondsWithoutEvents() {
        Run run = new Run("from a second to another one, beyond all events");
        run.event(PLACE, 0, 0, 0, 0).event(PLACE, 0, 0, 0, 99999);
        run.due("count(1, -2147483648, 2147483647)", 2).due("count(1, -2147483648, 0)", 0).due("count(1, -1, 1)", 1);
        run.due("count(1, 100000, 2147483647)", 0).due("count(1, 99999, 2147483647)", 1).due("count(1, -5, -5)", 0);
        run.due("count(1, -2147483648, -2147483648)", 0).due("count(1, 2147483647, 2147483647)", 0);
        run.end();
    }

    private static void fullCount() {
        Run run = new Run("How many events there are, of a full row");
        for (int i = 0; i < 200; i++) {
            run.event(i % 10, 0, 1, 1, 99999 - i);
        }
        run.due("count(-1, 0, 100000)", 200).dueForEach("count(#, 0, 100000)", 0, 9, 20);
        run.due("count(-1, 99800, 99801)", 1).due("count(-1, 99800, 99999)", 199).due("count(-1, 99801, 100000)", 199);
        run.noRoom("event(0, 0, 1, 1, 5)").due("count(-1, 0, 6)", 0).due("count(0, 0, 100000)", 20);
        run.end();
    }

    private static void eachIsCounted() {
        Run run = new Run("How many calls were refused: each is counted");
        run.due("refused()", 0).unknown("event(10, 0, 0, 0, 0)").outside("event(0, 0, 0, 0, -1)");
        run.unknown("state(10, 0)").outside("state(0, -1)").unknown("sent(10, 0)").outside("sent(0, -1)");
        run.unknown("way(0, 8, 0)").outside("way(0, 0, -1)").unknown("call(10, 0, 0)").outside("call(0, 0, -1)");
        run.notInState("call(0, 0, 0)").unknown("best(13, 0)").outside("best(0, -1)").outside("cover(-1)");
        run.unknown("hears(10, 0)").outside("hears(0, -1)").unknown("sector(20, 0)").outside("sector(0, -1)");
        run.unknown("missing(6, 0, 0, 0)").outside("missing(0, 0, -1, 0)").outside("missing(0, 0, 0, -1)");
        run.unknown("count(10, 0, 0)").outside("count(0, 1, 0)").due("refused()", 23).due("refused()", 23);
        run.unknown("state(10, 0)").unknown("state(10, 0)").due("refused()", 25);
        run.end();
    }

    private static void allCallsButRefused() {
        Run run = new Run("of all calls but refused()");
        run.due("refused()", 0).due("refused()", 0).due("events()", 0).due("refused()", 0);
        run.event(STATE, 0, 1, 0, 5).due("refused()", 0).due("state(0, 5)", 1).due("sent(0, 5)", -1).due("best(0, 5)", -2);
        run.due("way(0, 7, 5)", -1).due("cover(5)", -1).due("hears(0, 5)", 0).due("sector(0, 5)", -1);
        run.due("missing(0, 0, 0, 5)", -1).due("count(0, 5, 5)", 0).due("events()", 1).due("refused()", 0);
        run.end();
    }

    private static void unknownBeforeOutside() {
        Run run = new Run("unknown numbers before outside of a range");
        for (int second : new int[] {-1, 100000, HIGH, LOW}) {
            run.unknown("event(10, 0, 0, 0, " + second + ")").unknown("event(0, 10, 0, 0, " + second + ")");
            run.unknown("event(0, 0, 4, 0, " + second + ")").unknown("event(2, 1, 1, 0, " + second + ")");
            run.unknown("state(10, " + second + ")").unknown("sent(-1, " + second + ")");
            run.unknown("way(10, 0, " + second + ")").unknown("way(0, 8, " + second + ")");
            run.unknown("call(10, 0, " + second + ")").unknown("call(0, 4, " + second + ")");
            run.unknown("best(13, " + second + ")").unknown("best(-1, " + second + ")");
            run.unknown("hears(10, " + second + ")").unknown("sector(20, " + second + ")");
            run.unknown("missing(6, 0, 0, " + second + ")").unknown("missing(-1, 0, -1, " + second + ")");
        }
        run.unknown("event(2, 1, 1, 1000, 0)").unknown("event(2, 8, 1, 0, 0)").unknown("event(4, 0, 8, 10, 0)");
        run.unknown("event(9, 0, 4, 100, 0)").unknown("missing(6, 0, -1, 0)").unknown("count(10, 1, 0)");
        run.unknown("count(-2, 0, -1)");
        run.end();
    }

    private static void outsideBeforeNotInState() {
        Run run = new Run("outside of a range before not in this state");
        run.notInState("call(0, 0, 0)").unknown("call(0, 4, 0)").unknown("call(0, -1, 0)").unknown("call(0, 4, -1)");
        run.outsideBeside("call(0, 0, #)", 0, 99999).event(CALL, 0, 0, 1, 0).due("call(0, 0, 0)", 0);
        run.outsideBeside("call(0, 0, #)", 0, 99999).outsideBeside("call(1, 3, #)", 0, 99999);
        run.end();
    }

    private static void beforeNoRoom() {
        Run run = new Run("unknown numbers and outside of a range before no room");
        for (int i = 0; i < 200; i++) {
            run.event(LISTENS, 0, 1, 0, 5);
        }
        run.unknownBeside("event(#, 0, 1, 1, 5)", 0, 9).unknownBeside("event(0, #, 1, 1, 5)", 0, 9);
        run.unknownBeside("event(0, 0, #, 1, 5)", 0, 3).unknown("event(2, 1, 1, 1, 5)").unknown("event(2, 1, 1, 0, -1)");
        run.outsideBeside("event(0, 0, 1, 1, #)", 0, 99999).outsideBeside("event(2, 0, 1, #, 5)", 1, 999);
        run.outsideBeside("event(4, 0, 1, #, 5)", 1, 9).outsideBeside("event(9, 0, 1, #, 5)", 1, 99);
        run.noRoom("event(0, 0, 1, 1, 5)").noRoom("event(2, 0, 1, 1, 5)").noRoom("event(6, 0, -5, -5, 5)");
        run.end();
    }

    /** Each number at which an event can fail, the others being right. */
    private static void eachWrongNumberOfAnEvent() {
        int[] highestFirst = {9, 9, 7, 7, 9, 9, 9, 19, 9, 9};
        int[] lowestSecond = {0, 0, 0, 0, 0, 0, LOW, -1, -1, 0};
        int[] highestSecond = {3, 7, 7, 7, 7, 9, HIGH, 5, 3, 3};
        int[] highestThird = {HIGH, HIGH, 999, HIGH, 9, HIGH, HIGH, HIGH, HIGH, 99};
        for (int kind = 0; kind <= 9; kind++) {
            Run run = new Run("no such kind, or a, b are none such; c where it is told: kind " + kind);
            int other = kind == STREET || kind == CLOSED ? highestSecond[kind] - 1 : 0;
            run.event(kind, 0, 1, 1, 5).event(kind, highestFirst[kind], other, 1, 5);
            run.unknownBeside("event(" + kind + ", #, 1, 1, 5)", 0, highestFirst[kind]);
            if (kind != ENDED) {
                run.event(kind, 1, lowestSecond[kind], 1, 5).event(kind, 1, highestSecond[kind], 1, 5);
                run.unknownBeside("event(" + kind + ", 1, #, 1, 5)", lowestSecond[kind], highestSecond[kind]);
            }
            run.event(kind, 0, 1, highestThird[kind], 5);
            if (highestThird[kind] != HIGH) {
                run.outsideBeside("event(" + kind + ", 0, 1, #, 5)", 1, highestThird[kind]);
            }
            run.end();
        }
    }

    /** A row in which every question has something to tell, so that a change by a refused call would show. */
    private static void refusedChangesNothing() {
        Run run = onlyFirstUnitsFree("a refused call changes nothing else", 3);
        run.event(STREET, 0, 1, 5, 10).event(STREET, 1, 2, 6, 10).event(PLACE, 1, 2, 0, 10).event(CALL, 0, 1, 4, 10);
        run.event(CALL, 1, 2, 5, 10).event(SENT, 9, 1, 0, 10).event(PERSON, 0, 3, 0, 10).event(LISTENS, 0, 1, 0, 10);
        run.event(SPEAKS, 1, 1, 9, 10).event(CALL, 2, 0, 3, 10).event(ENDED, 2, 0, 0, 10);
        run.outside("event(0, 0, 3, 0, -1)").outside("event(1, 0, 3, 0, 100000)").outside("event(2, 0, 1, 1000, 10)");
        run.outside("event(3, 0, 1, 0, 100000)").outside("event(4, 0, 7, 10, 10)").outside("event(5, 0, 0, 0, -1)");
        run.outside("event(6, 0, 0, 0, 100000)").outside("event(7, 0, 5, 0, -1)").outside("event(8, 0, 3, 0, 100000)");
        run.outside("event(9, 2, 1, 100, 10)").unknown("event(0, 0, 4, 0, 10)").unknown("event(1, 0, 8, 0, 10)");
        run.unknown("event(3, 0, 8, 0, 10)").unknown("event(5, 0, 10, 0, 10)").unknown("event(6, 10, 0, 0, 10)");
        run.unknown("event(7, 0, 6, 0, 10)").unknown("event(8, 0, 4, 0, 10)").unknown("event(9, 2, 4, 8, 10)");
        run.unknown("best(13, 10)").outside("best(0, 100000)").outside("cover(100000)").notInState("call(3, 0, 10)");
        run.unknown("state(10, 10)").outside("sent(0, 100000)").unknown("way(0, 8, 10)").outside("hears(0, -1)");
        run.unknown("sector(20, 10)").outside("missing(3, 0, -1, 10)").outside("count(-1, 10, 9)");
        run.end();
    }
}
