/**
 * The sentences of promises 1, 2 and 13, and of the terms on events, seconds and their order, that name a boundary
 * case: a test for each, under the sentence's own words. Behind every refused call Run looks whether it was counted and
 * whether all else is as it was.
 */
public final class EventEdgesTest extends Words {
    /** An event of each kind, without its second. */
    private static final int[][] OF_EACH_KIND = {{STATE, 9, 3, 0}, {PLACE, 9, 7, 0}, {STREET, 6, 7, 999},
        {CLOSED, 6, 7, 0}, {CALL, 9, 7, 9}, {SENT, 9, 9, 0}, {ENDED, 9, 0, 0}, {PERSON, 19, 5, 0}, {LISTENS, 9, 3, 0},
        {SPEAKS, 9, 3, 99}};

    private EventEdgesTest() {
    }

    public static void main(String[] args) {
        nothingHappened();
        usedForFiveHundredAndTwelveCalls();
        atMostTwoHundred();
        fullOfOneSecond();
        itsNumber();
        secondsOfEvents();
        secondsOfQuestions();
        upToTheSecond();
        inAnyOrder();
        ofTheSameByKinds();
        ofTheSameByNumbers();
        noSuchKind();
        thirdNumberElsewhere();
        howManyEvents();
        Run.close();
    }

    private static String text(int[] event, String second) {
        return "event(" + event[0] + ", " + event[1] + ", " + event[2] + ", " + event[3] + ", " + second + ")";
    }

    private static void nothingHappened() {
        for (int t : new int[] {0, 99999}) {
            Run run = new Run("Nothing happened");
            run.due("refused()", 0).due("events()", 0);
            run.dueForEach("state(#, " + t + ")", 0, 9, 0).dueForEach("sent(#, " + t + ")", 0, 9, -1);
            run.dueForEach("hears(#, " + t + ")", 0, 9, 0).dueForEach("sector(#, " + t + ")", 0, 19, -1);
            for (int unit = 0; unit <= 9; unit++) {
                run.due("way(" + unit + ", 0, " + t + ")", 0);
                run.dueForEach("way(" + unit + ", #, " + t + ")", 1, 7, -1);
            }
            run.dueForEach("missing(#, 0, 0, " + t + ")", 0, 5, -1).dueForEach("best(#, " + t + ")", 0, 12, -2);
            run.due("cover(" + t + ")", -1).dueForEach("count(#, 0, 100000)", -1, 9, 0);
            for (int call = 0; call <= 9; call++) {
                for (int what = 0; what <= 3; what++) {
                    run.notInState("call(" + call + ", " + what + ", " + t + ")");
                }
            }
            run.end();
        }
    }

    private static void usedForFiveHundredAndTwelveCalls() {
        Run run = new Run("at most 512 calls");
        for (int i = 0; i < 200; i++) {
            run.event(LISTENS, i % 10, i % 4, 0, 99999);
        }
        for (int i = 0; i < 150; i++) {
            run.unknown("state(10, 0)");
        }
        // That makes 500 calls, since each refusal is looked up: these are the last twelve.
        run.due("events()", 200).due("state(9, 99999)", 0).due("sent(9, 99999)", -1).due("way(9, 0, 99999)", 0);
        run.due("best(0, 99999)", -2).due("cover(99999)", -1).due("hears(9, 99999)", 0).due("sector(19, 99999)", -1);
        run.due("missing(5, 0, 0, 99999)", -1).due("count(8, 99999, 100000)", 200).due("count(8, 0, 99999)", 0);
        run.due("refused()", 150);
    }

    private static void atMostTwoHundred() {
        Run run = new Run("EVENTS 0, 1, .. (at most 200)");
        for (int i = 0; i < 199; i++) {
            run.event(i % 2, i % 10, i % 4, 0, i * 500);
        }
        run.due("events()", 199).event(PERSON, 19, 5, 0, 99999).due("events()", 200);
        run.due("sector(19, 99999)", 5).due("count(-1, 0, 100000)", 200);
        for (int[] event : OF_EACH_KIND) {
            run.noRoom(text(event, "0")).noRoom(text(event, "99999"));
        }
        run.end();
    }

    private static void fullOfOneSecond() {
        Run run = new Run("at most 200, all of one second");
        for (int i = 0; i < 200; i++) {
            run.event(PLACE, 0, (i * 3) % 8, 0, 7);
        }
        run.due("way(0, 5, 7)", 0).due("way(0, 0, 7)", -1).due("way(0, 0, 6)", 0).due("way(0, 5, 99999)", 0);
        run.due("count(1, 7, 8)", 200).due("count(-1, 0, 7)", 0).due("count(-1, 8, 100000)", 0);
        run.end();
    }

    private static void itsNumber() {
        Run run = new Run("An event: its number");
        run.due("event(0, 0, 1, 0, 99999)", 0).due("event(9, 0, 1, 1, 0)", 1).due("event(0, 0, 1, 0, 99999)", 2);
        Run refusing = new Run("An event: its number, none for a refused one");
        refusing.event(STATE, 0, 1, 0, 5).unknown("event(0, 10, 1, 0, 5)").event(STATE, 1, 1, 0, 5);
        refusing.outside("event(0, 2, 1, 0, -1)").outside("event(2, 0, 1, 1000, 5)").event(STATE, 3, 1, 0, 5);
        refusing.notInState("call(0, 0, 5)").event(STATE, 4, 1, 0, 5).due("events()", 4);
        refusing.end();
    }

    private static void secondsOfEvents() {
        Run run = new Run("a SECOND (0 .. 99,999), of events");
        for (int[] event : OF_EACH_KIND) {
            run.outsideBeside(text(event, "#"), 0, 99999);
            run.event(event[0], event[1], event[2], event[3], 0);
            run.event(event[0], event[1], event[2], event[3], 99999);
            run.due("count(" + event[0] + ", 0, 1)", 1).due("count(" + event[0] + ", 99999, 100000)", 1);
        }
        run.end();
    }

    private static void secondsOfQuestions() {
        String[] questions = {"state(9, #)", "sent(8, #)", "way(9, 7, #)", "call(9, 3, #)", "best(12, #)", "cover(#)",
            "hears(9, #)", "sector(19, #)", "missing(5, 0, 0, #)"};
        int[] answersFirst = {2, -1, 5, 0, 0, 5, 4, 5, 19};
        int[] answersLast = {2, 9, 6, 1, -1, 6, 0, 4, -1};
        Run run = onlyFirstUnitsFree("a SECOND (0 .. 99,999), of questions", 1);
        run.event(STREET, 0, 7, 5, 0).event(CALL, 9, 7, 1, 0).event(LISTENS, 9, 0, 0, 0).event(SPEAKS, 8, 0, 4, 0);
        run.event(PERSON, 19, 5, 0, 0).event(PERSON, 19, 4, 0, 99999).event(SENT, 8, 9, 0, 99999);
        run.event(STREET, 0, 7, 6, 99999);
        for (int i = 0; i < questions.length; i++) {
            run.due(questions[i].replace("#", "0"), answersFirst[i]);
            run.due(questions[i].replace("#", "99999"), answersLast[i]);
            run.outsideBeside(questions[i], 0, 99999);
        }
        run.end();
    }

    private static void upToTheSecond() {
        Run run = onlyFirstUnitsFree("AS OF a second are those up to it", 1);
        run.event(STATE, 9, DRILLING, 0, 50).due("state(9, 49)", OFF).due("state(9, 50)", DRILLING);
        run.event(PLACE, 9, 7, 0, 50).due("way(9, 7, 49)", -1).due("way(9, 7, 50)", 0).due("way(9, 0, 50)", -1);
        run.event(STREET, 0, 1, 3, 50).due("way(0, 1, 49)", -1).due("way(0, 1, 50)", 3).due("way(0, 1, 51)", 3);
        run.due("cover(49)", -1).due("cover(50)", 3).due("cover(51)", 3);
        run.event(CLOSED, 0, 1, 0, 60).due("way(0, 1, 59)", 3).due("way(0, 1, 60)", -1).due("cover(59)", 3);
        run.due("cover(60)", -1).event(CALL, 2, 0, 8, 50).notInState("call(2, 1, 49)").due("call(2, 1, 50)", 8);
        run.due("best(0, 49)", 0).due("best(0, 50)", 8).due("best(0, 99999)", 8);
        run.event(SENT, 9, 2, 0, 70).due("sent(9, 69)", -1).due("sent(9, 70)", 2).due("sent(9, 71)", 2);
        run.due("call(2, 3, 69)", 0).due("call(2, 3, 70)", 1).due("best(0, 69)", 8).due("best(0, 70)", 0);
        run.event(ENDED, 2, 0, 0, 80).due("call(2, 2, 79)", 1).due("call(2, 2, 80)", 0);
        run.event(PERSON, 3, 1, 0, 50).due("sector(3, 49)", -1).due("sector(3, 50)", 1).due("sector(3, 51)", 1);
        run.due("missing(1, 0, 0, 49)", -1).due("missing(1, 0, 0, 50)", 3);
        run.event(SPEAKS, 4, 3, 33, 49).event(SPEAKS, 4, 3, 34, 50).event(LISTENS, 0, 3, 0, 50);
        run.due("hears(0, 49)", 0).due("hears(0, 50)", 34);
        run.end();
    }

    private static void inAnyOrder() {
        Run run = onlyFirstUnitsFree("in order of seconds, told in any order", 1);
        for (int second = 30; second >= 10; second -= 10) {
            int b = second / 10;
            run.event(STATE, 5, b, 0, second).event(PLACE, 6, b, 0, second).event(STREET, 6, 7, b, second);
            run.event(CALL, 7, b, b, second).event(SENT, 8, b, 0, second).event(PERSON, 9, b, 0, second);
            run.event(LISTENS, 0, b, 0, second).event(SPEAKS, 1, b, b, second);
        }
        run.event(PLACE, 2, 6, 0, 0);
        for (int second : new int[] {20, 30, 10}) {
            int b = second / 10;
            run.due("state(5, " + second + ")", b).due("way(6, " + b + ", " + second + ")", 0);
            run.due("way(2, 7, " + second + ")", b).due("call(7, 0, " + second + ")", b);
            run.due("call(7, 1, " + second + ")", b).due("sent(8, " + second + ")", b);
            run.due("sector(9, " + second + ")", b).due("missing(" + b + ", 0, 0, " + second + ")", 9);
            run.due("hears(0, " + second + ")", b).due("hears(0, " + (second + 1) + ")", 0);
            run.due("state(5, " + (second + 9) + ")", b).due("sent(8, " + (second - 1) + ")", b == 1 ? -1 : b - 1);
        }
        run.end();
    }

    private static void ofTheSameByKinds() {
        Run run = onlyFirstUnitsFree("of the same by kinds", 1);
        run.event(SENT, 5, 3, 0, 10).event(STATE, 5, OUT, 0, 10).due("sent(5, 10)", 3).due("state(5, 10)", OUT);
        run.event(CLOSED, 2, 3, 0, 10).event(STREET, 2, 3, 9, 10).event(PLACE, 5, 2, 0, 10).due("way(5, 3, 10)", -1);
        run.event(STREET, 2, 3, 9, 11).due("way(5, 3, 11)", 9).event(CLOSED, 3, 2, 0, 11).due("way(5, 3, 11)", -1);
        run.event(ENDED, 6, 0, 0, 10).event(CALL, 6, 1, 2, 10).due("call(6, 2, 10)", 0).due("call(6, 1, 10)", 2);
        run.event(SPEAKS, 5, 1, 44, 10).event(LISTENS, 7, 1, 0, 10).due("hears(7, 10)", 44);
        run.event(SENT, 0, 6, 0, 12).event(STATE, 0, FREE, 0, 12).due("sent(0, 12)", 6).due("best(0, 12)", 0);
        run.end();
    }

    private static void ofTheSameByNumbers() {
        Run run = new Run("of the same by numbers: the LATEST is the last of these");
        run.event(STATE, 5, DRILLING, 9, 10).event(STATE, 5, OUT, 0, 10).due("state(5, 10)", OUT);
        run.event(PLACE, 5, 7, 9, 10).event(PLACE, 5, 2, 0, 10).due("way(5, 2, 10)", 0).due("way(5, 7, 10)", -1);
        run.event(STREET, 2, 3, 999, 10).event(STREET, 2, 3, 5, 10).due("way(5, 3, 10)", 5);
        run.event(STREET, 3, 2, 8, 10).due("way(5, 3, 10)", 8).event(STREET, 2, 3, 7, 10).due("way(5, 3, 10)", 7);
        run.event(CALL, 8, 7, 9, 10).event(CALL, 8, 1, 1, 10).due("call(8, 0, 10)", 1).due("call(8, 1, 10)", 1);
        run.event(CALL, 8, 1, 5, 10).event(CALL, 8, 1, 4, 10).due("call(8, 1, 10)", 4);
        run.event(SENT, 5, 9, 0, 10).event(SENT, 5, 0, 0, 10).due("sent(5, 10)", 0);
        run.event(PERSON, 5, 5, 0, 10).event(PERSON, 5, -1, 0, 10).due("sector(5, 10)", -1);
        run.event(LISTENS, 5, 3, 0, 10).event(LISTENS, 5, 0, 0, 10);
        run.event(SPEAKS, 6, 0, 99, 10).event(SPEAKS, 6, 0, 1, 10).due("hears(5, 10)", 1);
        run.end();
    }

    private static void noSuchKind() {
        Run run = new Run("no such kind");
        run.unknownBeside("event(#, 0, 1, 1, 0)", 0, 9);
        for (int kind = 0; kind <= 9; kind++) {
            run.event(kind, 0, 1, 1, 0);
        }
        run.unknownBeside("event(#, 0, 1, 1, 0)", 0, 9);
        run.end();
    }

    private static void thirdNumberElsewhere() {
        int[] anyNumbers = {LOW, -1, 0, 1, 10, 100, 1000, HIGH};
        int[] withoutThird = {STATE, PLACE, CLOSED, SENT, ENDED, PERSON, LISTENS};
        Run run = new Run("c where it is told (elsewhere it does not matter)");
        for (int c : anyNumbers) {
            for (int kind : withoutThird) {
                run.event(kind, 1, 2, c, 3);
            }
            run.event(ENDED, 1, c, c, 3);
        }
        run.due("state(1, 3)", 2).due("sent(1, 3)", 2).due("way(1, 2, 3)", 0).due("sector(1, 3)", 2);
        run.end();
    }

    private static void howManyEvents() {
        Run run = new Run("How many events there are");
        run.due("events()", 0).event(PERSON, 0, -1, 0, 99999).due("events()", 1).due("events()", 1);
        run.event(PERSON, 0, -1, 0, 99999).due("events()", 2).unknown("event(7, 0, -2, 0, 0)").due("events()", 2);
        for (int i = 2; i < 200; i++) {
            run.event(PERSON, 0, -1, 0, 0);
        }
        run.due("events()", 200).noRoom("event(7, 0, -1, 0, 0)").due("events()", 200);
        run.end();
    }
}
