/**
 * The sentences of promises 6 and 7, and of the terms on calls and on the best sending, that name a boundary case: a
 * test for each, under the sentence's own words. Behind every refused call Run looks whether it was counted and whether
 * all else is as it was.
 */
public final class CallEdgesTest extends Words {
    private CallEdgesTest() {
    }

    public static void main(String[] args) {
        callsOfEvents();
        nodesOfCalls();
        ranks();
        latestCall();
        noSuchCall();
        noSuchPartOfACall();
        notCalledByThen();
        overUntilCalledAgain();
        openWhenCalled();
        servedWhenSent();
        noSuchWhat();
        nothingToSend();
        moreThanFiveFreeUnits();
        moreThanFiveCalls();
        onlyFreeUnitsAreCounted();
        onlyWaitingCallsAreCounted();
        atMostOneToEach();
        oneCallForEachUnit();
        eachWithAWay();
        mostRanks();
        leastWays();
        firstByCalls();
        noUnitBehindAllUnits();
        fullSending();
        Run.close();
    }

    private static void callsOfEvents() {
        Run run = new Run("CALLS 0 .. 9");
        run.unknownBeside("event(4, #, 1, 1, 5)", 0, 9).unknownBeside("event(6, #, 1, 1, 5)", 0, 9);
        run.unknownBeside("event(5, 1, #, 1, 5)", 0, 9);
        run.event(CALL, 0, 1, 2, 5).event(CALL, 9, 3, 4, 5).due("call(0, 0, 5)", 1).due("call(9, 0, 5)", 3);
        run.event(SENT, 1, 0, 0, 6).event(SENT, 2, 9, 0, 6).due("call(0, 3, 6)", 1).due("call(9, 3, 6)", 1);
        run.event(ENDED, 0, 0, 0, 7).due("call(0, 2, 7)", 0).due("call(9, 2, 7)", 1);
        run.event(ENDED, 9, 0, 0, 8).due("call(9, 2, 7)", 1).due("call(9, 2, 8)", 0);
        run.end();
    }

    private static void nodesOfCalls() {
        Run run = new Run("call a is at node b");
        run.unknownBeside("event(4, 3, #, 1, 5)", 0, 7);
        run.event(CALL, 3, 0, 1, 5).due("call(3, 0, 5)", 0).event(CALL, 3, 7, 1, 6).due("call(3, 0, 6)", 7);
        run.end();
    }

    private static void ranks() {
        Run run = new Run("of rank c (1 .. 9)");
        run.outsideBeside("event(4, 3, 0, #, 5)", 1, 9);
        run.event(CALL, 3, 0, 1, 5).due("call(3, 1, 5)", 1).event(CALL, 3, 0, 9, 6).due("call(3, 1, 6)", 9);
        run.outsideBeside("event(4, 3, 0, #, 7)", 1, 9);
        run.end();
    }

    private static void latestCall() {
        Run run = new Run("the latest one");
        run.event(CALL, 3, 5, 6, 20).event(CALL, 3, 1, 2, 10).event(ENDED, 3, 0, 0, 15);
        run.due("call(3, 0, 19)", 1).due("call(3, 1, 19)", 2).due("call(3, 0, 20)", 5).due("call(3, 1, 20)", 6);
        run.event(CALL, 4, 7, 9, 21).due("call(3, 0, 21)", 5).due("call(3, 1, 99999)", 6);
        run.end();
    }

    private static void noSuchCall() {
        Run run = new Run("no such call");
        for (int call = 0; call <= 9; call++) {
            run.event(CALL, call, call % 8, 9 - call % 9, 5);
            run.due("call(" + call + ", 0, 5)", call % 8).due("call(" + call + ", 1, 5)", 9 - call % 9);
        }
        run.unknownBeside("call(#, 0, 5)", 0, 9).unknownBeside("call(#, 3, 5)", 0, 9);
        run.end();
    }

    private static void noSuchPartOfACall() {
        Run run = new Run("no such what, of a call");
        run.event(CALL, 9, 7, 8, 5).due("call(9, 0, 5)", 7).due("call(9, 1, 5)", 8).due("call(9, 2, 5)", 1);
        run.due("call(9, 3, 5)", 0).unknownBeside("call(9, #, 5)", 0, 3).unknownBeside("call(0, #, 5)", 0, 3);
        run.end();
    }

    private static void notCalledByThen() {
        Run run = new Run("it was not called by then");
        run.event(ENDED, 3, 0, 0, 1).event(SENT, 0, 3, 0, 1).event(CALL, 2, 0, 1, 0).event(CALL, 4, 0, 1, 0);
        for (int what = 0; what <= 3; what++) {
            run.notInState("call(3, " + what + ", 1)").notInState("call(3, " + what + ", 99999)");
        }
        run.event(CALL, 3, 7, 9, 99999).due("call(3, 0, 99999)", 7).due("call(3, 1, 99999)", 9);
        run.due("call(3, 2, 99999)", 1).due("call(3, 3, 99999)", 1);
        for (int what = 0; what <= 3; what++) {
            run.notInState("call(3, " + what + ", 99998)").notInState("call(3, " + what + ", 0)");
        }
        run.event(CALL, 3, 6, 8, 0).due("call(3, 0, 0)", 6).due("call(3, 0, 99998)", 6).due("call(3, 0, 99999)", 7);
        run.end();
    }

    private static void overUntilCalledAgain() {
        Run run = new Run("call a is over, until it is called again");
        run.event(CALL, 3, 7, 9, 10).event(ENDED, 3, 0, 0, 20).event(CALL, 3, 6, 8, 30).event(ENDED, 3, 0, 0, 40);
        run.due("call(3, 2, 10)", 1).due("call(3, 2, 19)", 1).due("call(3, 2, 20)", 0).due("call(3, 2, 29)", 0);
        run.due("call(3, 2, 30)", 1).due("call(3, 2, 39)", 1).due("call(3, 2, 40)", 0).due("call(3, 2, 99999)", 0);
        run.due("call(3, 0, 20)", 7).due("call(3, 1, 29)", 9).due("call(3, 0, 40)", 6).due("call(3, 1, 40)", 8);
        run.event(ENDED, 3, 0, 0, 41).event(CALL, 3, 5, 7, 42).due("call(3, 2, 41)", 0).due("call(3, 2, 42)", 1);
        run.event(ENDED, 3, 0, 0, 42).due("call(3, 2, 42)", 0).event(CALL, 3, 5, 7, 42).due("call(3, 2, 42)", 0);
        run.end();
    }

    private static void openWhenCalled() {
        Run run = new Run("OPEN when it was called and is not over");
        run.event(CALL, 3, 7, 9, 10).event(ENDED, 3, 0, 0, 9).due("call(3, 2, 10)", 1).due("call(3, 2, 99999)", 1);
        run.event(ENDED, 2, 0, 0, 10).event(ENDED, 4, 0, 0, 10).due("call(3, 2, 10)", 1);
        run.event(SENT, 0, 3, 0, 11).due("call(3, 2, 11)", 1).event(STATE, 0, FREE, 0, 12).due("call(3, 2, 12)", 1);
        run.event(SENT, 3, 9, 0, 13).due("call(3, 2, 13)", 1).event(ENDED, 4, 3, 3, 14).due("call(3, 2, 14)", 1);
        run.due("sector(4, 14)", -1).due("state(4, 14)", 0).due("sent(3, 14)", 9);
        run.end();
    }

    private static void servedWhenSent() {
        Run run = new Run("SERVED when some unit is sent to it");
        run.event(CALL, 3, 7, 9, 10).due("call(3, 3, 10)", 0);
        run.event(SENT, 0, 3, 0, 11).due("call(3, 3, 10)", 0).due("call(3, 3, 11)", 1);
        run.event(SENT, 0, 4, 0, 12).due("call(3, 3, 12)", 0);
        run.event(SENT, 9, 3, 0, 13).due("call(3, 3, 13)", 1).event(STATE, 9, OUT, 0, 14).due("call(3, 3, 14)", 0);
        for (int unit = 0; unit <= 9; unit++) {
            run.event(SENT, unit, 3, 0, 15).due("call(3, 3, 15)", 1);
        }
        for (int unit = 0; unit <= 9; unit++) {
            run.event(STATE, unit, unit % 4, 0, 16 + unit);
            run.due("call(3, 3, " + (16 + unit) + ")", unit == 9 ? 0 : 1);
        }
        run.event(SENT, 5, 3, 0, 30).event(ENDED, 3, 0, 0, 31).due("call(3, 3, 31)", 1).due("call(3, 2, 31)", 0);
        run.end();
    }

    private static void noSuchWhat() {
        Run run = onlyFirstUnitsFree("no such what (0 .. 12)", 5);
        run.unknownBeside("best(#, 0)", 0, 12).due("best(0, 0)", 0).due("best(12, 0)", -1);
        run.event(CALL, 9, 0, 3, 5).due("best(0, 5)", 3).due("best(12, 5)", 0).due("best(11, 5)", -1);
        run.event(CALL, 0, 0, 2, 6).due("best(3, 6)", 0).due("best(12, 6)", 1).due("best(2, 6)", 2);
        run.event(STATE, 9, FREE, 0, 7).due("best(0, 7)", -2).due("best(12, 7)", -2);
        run.unknownBeside("best(#, 7)", 0, 12);
        run.end();
    }

    private static void nothingToSend() {
        Run run = onlyFirstUnitsFree("THE BEST SENDING, of none", 0);
        run.dueForEach("best(#, 0)", 0, 2, 0).dueForEach("best(#, 0)", 3, 12, -1);
        run.event(CALL, 0, 0, 9, 1).event(CALL, 9, 0, 9, 1);
        run.dueForEach("best(#, 1)", 0, 2, 0).dueForEach("best(#, 1)", 3, 12, -1);
        run.event(STATE, 9, FREE, 0, 2).event(ENDED, 0, 0, 0, 2).event(ENDED, 9, 0, 0, 2);
        run.dueForEach("best(#, 2)", 0, 2, 0).dueForEach("best(#, 2)", 3, 12, -1);
        run.event(CALL, 9, 0, 9, 3).due("best(0, 3)", 9).due("best(1, 3)", 0).due("best(2, 3)", 1).due("best(12, 3)", 9);
        run.end();
    }

    private static void moreThanFiveFreeUnits() {
        Run run = onlyFirstUnitsFree("With more than 5 free units", 0);
        run.event(CALL, 4, 0, 6, 0);
        for (int unit = 9; unit >= 0; unit--) {
            int t = 10 - unit;
            run.event(STATE, unit, FREE, 0, t);
            boolean tried = t <= 5;
            run.due("best(0, " + t + ")", tried ? 6 : -2).due("best(1, " + t + ")", tried ? 0 : -2);
            run.due("best(2, " + t + ")", tried ? 1 : -2).due("best(3, " + t + ")", tried ? -1 : -2);
            run.due("best(7, " + t + ")", tried ? unit : -2).due("best(12, " + t + ")", tried ? -1 : -2);
        }
        run.dueForEach("best(#, 6)", 0, 12, -2);
        Run noCalls = onlyFirstUnitsFree("With more than 5 free units, and no call", 6);
        noCalls.dueForEach("best(#, 0)", 0, 12, -2).event(STATE, 5, OUT, 0, 1).due("best(0, 1)", 0);
        noCalls.dueForEach("best(#, 1)", 3, 12, -1).event(STATE, 9, FREE, 0, 2).due("best(0, 2)", -2);
        noCalls.end();
        run.end();
    }

    private static void moreThanFiveCalls() {
        Run run = onlyFirstUnitsFree("or more than 5 such calls", 1);
        for (int call = 9; call >= 0; call--) {
            int t = 10 - call;
            run.event(CALL, call, 0, 1 + call % 5, t);
            boolean tried = t <= 5;
            run.due("best(0, " + t + ")", tried ? 5 : -2).due("best(1, " + t + ")", tried ? 0 : -2);
            run.due("best(2, " + t + ")", tried ? 1 : -2).due("best(3, " + t + ")", tried ? -1 : -2);
            run.due("best(12, " + t + ")", tried ? 0 : -2);
        }
        run.dueForEach("best(#, 6)", 0, 12, -2);
        Run noUnits = onlyFirstUnitsFree("or more than 5 such calls, and no free unit", 0);
        for (int call = 0; call <= 5; call++) {
            noUnits.event(CALL, call, 0, 1, call);
        }
        noUnits.dueForEach("best(#, 4)", 0, 2, 0).dueForEach("best(#, 4)", 3, 12, -1);
        noUnits.dueForEach("best(#, 5)", 0, 12, -2).event(ENDED, 0, 0, 0, 6).due("best(0, 6)", 0);
        noUnits.end();
        run.end();
    }

    private static void onlyFreeUnitsAreCounted() {
        Run run = new Run("free units (state 0, not sent)");
        run.event(CALL, 0, 0, 7, 0).event(CALL, 1, 7, 1, 0).due("best(0, 0)", -2);
        run.event(STATE, 0, OUT, 0, 1).event(STATE, 1, OFF, 0, 1).event(STATE, 2, DRILLING, 0, 1).due("best(0, 1)", -2);
        run.event(SENT, 3, 9, 0, 2).due("best(0, 2)", -2).event(SENT, 4, 8, 0, 3).due("best(0, 3)", 7);
        run.due("best(3, 3)", 5).due("best(2, 3)", 1).event(STATE, 3, FREE, 0, 4).due("best(0, 4)", -2);
        run.event(STATE, 9, OUT, 0, 5).due("best(0, 5)", 7).due("best(3, 5)", 3).due("best(4, 5)", -1);
        run.end();
    }

    private static void onlyWaitingCallsAreCounted() {
        Run run = onlyFirstUnitsFree("open calls that are not served", 2);
        for (int call = 0; call <= 7; call++) {
            run.event(CALL, call, 0, 1 + call, 0);
        }
        run.due("best(0, 0)", -2).event(ENDED, 7, 0, 0, 1).due("best(0, 1)", -2).event(SENT, 9, 6, 0, 2);
        run.due("best(0, 2)", -2).event(SENT, 8, 5, 0, 3).due("best(0, 3)", 9).due("best(2, 3)", 2);
        run.due("best(7, 3)", 1).due("best(6, 3)", 0).due("best(8, 3)", -1).due("best(10, 3)", -1);
        run.event(STATE, 9, OUT, 0, 4).due("best(0, 4)", -2).event(ENDED, 0, 0, 0, 5).due("best(0, 5)", 12);
        run.event(CALL, 0, 0, 1, 6).due("best(0, 6)", -2).event(SENT, 9, 0, 0, 7).due("best(0, 7)", 12);
        run.event(ENDED, 5, 0, 0, 8).due("best(0, 8)", 12).event(CALL, 9, 0, 1, 8).due("best(0, 8)", -2);
        run.end();
    }

    private static void atMostOneToEach() {
        Run run = onlyFirstUnitsFree("at most one to each", 5);
        run.event(CALL, 6, 0, 9, 0).due("best(0, 0)", 9).due("best(1, 0)", 0).due("best(2, 0)", 1).due("best(9, 0)", 0);
        run.end();
    }

    private static void oneCallForEachUnit() {
        Run run = onlyFirstUnitsFree("one call for each unit", 1);
        for (int call = 0; call <= 4; call++) {
            run.event(CALL, call, 0, 3 + call, 0);
        }
        run.due("best(0, 0)", 7).due("best(2, 0)", 1).dueForEach("best(#, 0)", 3, 6, -1).due("best(7, 0)", 0);
        run.end();
    }

    private static void eachWithAWay() {
        Run run = onlyFirstUnitsFree("each with a way", 2);
        run.event(CALL, 0, 5, 9, 0).event(CALL, 1, 0, 1, 0);
        run.due("best(0, 0)", 1).due("best(1, 0)", 0).due("best(2, 0)", 1).due("best(3, 0)", -1).due("best(4, 0)", 0);
        run.event(STREET, 0, 5, 999, 1).due("best(0, 1)", 10).due("best(1, 1)", 999).due("best(3, 1)", 0);
        run.due("best(4, 1)", 1).event(CLOSED, 0, 5, 0, 2).due("best(0, 2)", 1).due("best(3, 2)", -1);
        run.event(PLACE, 1, 5, 0, 3).due("best(0, 3)", 10).due("best(1, 3)", 0).due("best(3, 3)", 1).due("best(4, 3)", 0);
        run.event(PLACE, 1, 6, 0, 4).event(PLACE, 0, 7, 0, 4);
        run.dueForEach("best(#, 4)", 0, 2, 0).dueForEach("best(#, 4)", 3, 12, -1);
        run.end();
    }

    private static void mostRanks() {
        Run run = onlyFirstUnitsFree("the one whose ranks sum to most", 2);
        run.event(STREET, 0, 1, 999, 0).event(STREET, 1, 2, 999, 0).event(STREET, 4, 5, 999, 0);
        run.event(CALL, 0, 0, 8, 0).event(CALL, 1, 0, 8, 0).event(CALL, 2, 2, 9, 0).event(CALL, 3, 2, 9, 0);
        run.due("best(0, 0)", 18).due("best(1, 0)", 3996).due("best(2, 0)", 2);
        run.due("best(3, 0)", -1).due("best(4, 0)", -1).due("best(5, 0)", 0).due("best(6, 0)", 1);
        run.end();
    }

    private static void leastWays() {
        Run run = onlyFirstUnitsFree("of these with the least sum of ways", 2);
        run.event(STREET, 0, 1, 100, 0).event(STREET, 0, 2, 101, 0).event(CALL, 0, 2, 5, 0).event(CALL, 1, 1, 5, 0);
        run.event(STATE, 0, OUT, 0, 1).due("best(0, 1)", 5).due("best(1, 1)", 100).due("best(3, 1)", -1);
        run.due("best(4, 1)", 1).event(STREET, 0, 2, 100, 2).due("best(1, 2)", 100).due("best(3, 2)", 1);
        run.due("best(4, 2)", -1).event(STREET, 0, 2, 99, 3).due("best(1, 3)", 99).due("best(3, 3)", 1);
        run.event(STATE, 0, FREE, 0, 4).event(PLACE, 0, 1, 0, 4).event(PLACE, 1, 2, 0, 4);
        run.due("best(0, 4)", 10).due("best(1, 4)", 0).due("best(3, 4)", 1).due("best(4, 4)", 0);
        Run other = onlyFirstUnitsFree("the least sum of ways, not the nearest unit for the highest rank", 2);
        other.event(STREET, 0, 2, 900, 0).event(STREET, 0, 4, 5, 0).event(CALL, 0, 0, 9, 0).event(CALL, 1, 4, 1, 0);
        // Unit 1 is the nearer one to both calls: if it went to call 0, the sum would be 910.
        other.event(PLACE, 0, 2, 0, 1).event(PLACE, 1, 4, 0, 1);
        other.due("best(0, 1)", 10).due("best(1, 1)", 900).due("best(3, 1)", 0).due("best(4, 1)", 1);
        other.end();
        run.end();
    }

    private static void firstByCalls() {
        Run run = onlyFirstUnitsFree("the first by calls (call by call, in numbers, the lowest unit)", 5);
        for (int call = 9; call >= 5; call--) {
            run.event(CALL, call, 3, 4, 0);
        }
        run.event(STREET, 0, 3, 50, 0).due("best(0, 0)", 20).due("best(1, 0)", 250).due("best(2, 0)", 5);
        for (int call = 5; call <= 9; call++) {
            run.due("best(" + (3 + call) + ", 0)", call - 5);
        }
        // Unit 0 stands near call 9 alone, so the others move up.
        run.event(PLACE, 0, 7, 0, 1).event(STREET, 7, 6, 1, 1).event(CALL, 9, 6, 4, 1).due("best(0, 1)", 20);
        run.due("best(8, 1)", 1).due("best(9, 1)", 2).due("best(10, 1)", 3).due("best(11, 1)", 4).due("best(12, 1)", 0);
        // Of one place and one way all the same, the lowest unit goes to the lowest call, however near they all are.
        run.event(PLACE, 0, 0, 0, 2).event(CALL, 9, 0, 4, 2).due("best(0, 2)", 20).due("best(1, 2)", 200);
        run.due("best(8, 2)", 0).due("best(12, 2)", 4);
        run.end();
    }

    private static void noUnitBehindAllUnits() {
        Run run = onlyFirstUnitsFree("no unit behind all units", 0);
        run.event(STATE, 9, FREE, 0, 0).event(STREET, 0, 1, 5, 0);
        run.event(CALL, 2, 1, 3, 0).event(CALL, 6, 1, 3, 0).event(CALL, 9, 1, 3, 0);
        run.due("best(5, 0)", 9).due("best(9, 0)", -1).due("best(12, 0)", -1).due("best(2, 0)", 1);
        run.event(STATE, 8, FREE, 0, 1).due("best(5, 1)", 8).due("best(9, 1)", 9).due("best(12, 1)", -1);
        run.event(ENDED, 2, 0, 0, 2).due("best(5, 2)", -1).due("best(9, 2)", 8).due("best(12, 2)", 9);
        run.end();
    }

    private static void fullSending() {
        Run run = new Run("5 free units and 5 calls, the highest ranks and the longest ways");
        chainOfAllNodes(run, 999);
        for (int number = 0; number <= 4; number++) {
            run.event(STATE, number, OUT, 0, 0).event(PLACE, 5 + number, 7, 0, 0).event(CALL, 5 + number, 0, 9, 0);
        }
        run.due("best(0, 0)", 45).due("best(1, 0)", 34965).due("best(2, 0)", 5).dueForEach("best(#, 0)", 3, 7, -1);
        for (int call = 5; call <= 9; call++) {
            run.due("best(" + (3 + call) + ", 0)", call);
        }
        run.event(STATE, 4, FREE, 0, 1).dueForEach("best(#, 1)", 0, 12, -2).event(SENT, 4, 0, 0, 1).due("best(0, 1)", 45);
        run.event(CALL, 4, 0, 1, 2).dueForEach("best(#, 2)", 0, 12, -2).event(ENDED, 4, 0, 0, 2).due("best(0, 2)", 45);
        run.end();
    }
}
