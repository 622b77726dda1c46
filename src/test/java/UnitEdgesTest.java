/**
 * The sentences of promises 3 to 5, and of the terms on units, states, places, streets and ways, that name a boundary
 * case: a test for each, under the sentence's own words. Behind every refused call Run looks whether it was counted and
 * whether all else is as it was.
 */
public final class UnitEdgesTest extends Words {
    private UnitEdgesTest() {
    }

    public static void main(String[] args) {
        unitsOfEvents();
        unitsOfQuestions();
        states();
        freeAtFirst();
        places();
        nodeZeroAtFirst();
        sentNone();
        sentToEachCall();
        latestOfSentAndState();
        stateBehindEndsIt();
        nodesOfStreets();
        notOneNode();
        metres();
        noStreetAtFirst();
        bothWays();
        latestOfBothKinds();
        nodesOfWays();
        ownNode();
        withoutAWay();
        longestWay();
        leastSum();
        overEachNode();
        Run.close();
    }

    private static void unitsOfEvents() {
        int[] kinds = {STATE, PLACE, SENT, LISTENS, SPEAKS};
        Run run = new Run("UNITS 0 .. 9, of events");
        for (int kind : kinds) {
            run.unknownBeside("event(" + kind + ", #, 1, 1, 5)", 0, 9);
            run.event(kind, 0, 1, 1, 5).event(kind, 9, 2, 2, 5);
        }
        run.due("state(0, 5)", 1).due("state(9, 5)", 2).dueForEach("state(#, 5)", 1, 8, 0);
        run.due("way(0, 1, 5)", 0).due("way(9, 2, 5)", 0).dueForEach("way(#, 0, 5)", 1, 8, 0);
        run.due("sent(0, 5)", 1).due("sent(9, 5)", 2).dueForEach("sent(#, 5)", 1, 8, -1);
        run.event(SPEAKS, 4, 1, 7, 6).event(SPEAKS, 4, 2, 8, 6);
        run.due("hears(0, 6)", 7).due("hears(9, 6)", 8).dueForEach("hears(#, 6)", 1, 8, 0);
        run.end();
    }

    private static void unitsOfQuestions() {
        Run run = new Run("no such unit");
        for (int unit = 0; unit <= 9; unit++) {
            run.event(STATE, unit, unit % 4, 0, 1).event(SENT, unit, 9 - unit, 0, 1).event(PLACE, unit, unit % 8, 0, 1);
            run.event(LISTENS, unit, unit % 4, 0, 1);
        }
        for (int channel = 0; channel <= 3; channel++) {
            run.event(SPEAKS, 3 - channel, channel, 10 + channel, 1);
        }
        for (int unit = 0; unit <= 9; unit++) {
            run.due("state(" + unit + ", 1)", unit % 4).due("sent(" + unit + ", 1)", 9 - unit);
            run.due("way(" + unit + ", " + unit % 8 + ", 1)", 0).due("hears(" + unit + ", 1)", 10 + unit % 4);
        }
        run.unknownBeside("state(#, 1)", 0, 9).unknownBeside("sent(#, 1)", 0, 9);
        run.unknownBeside("way(#, 0, 1)", 0, 9).unknownBeside("hears(#, 1)", 0, 9);
        run.end();
    }

    private static void states() {
        Run run = new Run("0 free (at first), 1 out, 2 off, 3 drilling");
        run.unknownBeside("event(0, 4, #, 0, 0)", 0, 3);
        for (int state = 3; state >= 0; state--) {
            run.event(STATE, 4, state, 0, 10 - state).due("state(4, " + (10 - state) + ")", state);
        }
        run.unknownBeside("event(0, 4, #, 0, 0)", 0, 3);
        run.end();
    }

    private static void freeAtFirst() {
        Run run = new Run("0 free (at first)");
        run.event(STATE, 4, OUT, 0, 10).event(STATE, 4, OFF, 0, 11);
        run.due("state(4, 0)", 0).due("state(4, 9)", 0).due("state(4, 10)", 1);
        run.dueForEach("state(#, 99999)", 0, 3, 0).dueForEach("state(#, 99999)", 5, 9, 0);
        run.end();
    }

    private static void places() {
        Run run = new Run("unit a is at node b");
        run.unknownBeside("event(1, 4, #, 0, 0)", 0, 7);
        run.event(PLACE, 4, 7, 0, 10).due("way(4, 7, 10)", 0).dueForEach("way(4, #, 10)", 0, 6, -1);
        run.event(PLACE, 4, 0, 0, 11).due("way(4, 0, 11)", 0).dueForEach("way(4, #, 11)", 1, 7, -1);
        run.event(PLACE, 4, 3, 0, 9).due("way(4, 3, 9)", 0).due("way(4, 7, 10)", 0).due("way(4, 0, 11)", 0);
        run.end();
    }

    private static void nodeZeroAtFirst() {
        Run run = new Run("0 at first");
        run.event(STREET, 0, 5, 77, 0).event(PLACE, 4, 5, 0, 10);
        run.dueForEach("way(#, 0, 9)", 0, 9, 0).dueForEach("way(#, 5, 9)", 0, 9, 77);
        run.due("way(4, 5, 10)", 0).due("way(4, 0, 10)", 77).dueForEach("way(#, 5, 10)", 5, 9, 77);
        run.end();
    }

    private static void sentNone() {
        Run run = new Run("To which call a unit is sent; -1: none");
        run.event(CALL, 0, 0, 1, 0).event(STATE, 4, OUT, 0, 0).dueForEach("sent(#, 99999)", 0, 9, -1);
        run.event(SENT, 4, 0, 0, 10).due("sent(4, 9)", -1).due("sent(4, 10)", 0);
        run.dueForEach("sent(#, 10)", 0, 3, -1).dueForEach("sent(#, 10)", 5, 9, -1);
        run.end();
    }

    private static void sentToEachCall() {
        Run run = new Run("unit a goes to call b");
        run.unknownBeside("event(5, 4, #, 0, 0)", 0, 9);
        for (int call = 0; call <= 9; call++) {
            run.event(SENT, 4, call, 0, 10 + call).due("sent(4, " + (10 + call) + ")", call);
        }
        run.due("sent(4, 99999)", 9).due("sent(4, 18)", 8);
        run.end();
    }

    private static void latestOfSentAndState() {
        Run run = new Run("of each unit the latest one of 5 and 0 counts");
        run.event(SENT, 4, 7, 0, 20).event(STATE, 4, OFF, 0, 19).due("sent(4, 20)", 7).due("state(4, 20)", OFF);
        run.event(SENT, 4, 6, 0, 18).due("sent(4, 18)", 6).due("sent(4, 19)", -1).due("sent(4, 20)", 7);
        run.event(STATE, 4, OUT, 0, 20).due("sent(4, 20)", 7).due("state(4, 20)", OUT);
        run.event(STATE, 5, OUT, 0, 21).due("sent(4, 21)", 7).event(SENT, 5, 1, 0, 22).due("sent(4, 22)", 7);
        run.event(PLACE, 4, 7, 0, 23).event(ENDED, 7, 0, 0, 23).event(CALL, 7, 0, 1, 24).due("sent(4, 24)", 7);
        run.end();
    }

    private static void stateBehindEndsIt() {
        for (int state = 0; state <= 3; state++) {
            Run run = new Run("a state behind it ends it: " + state);
            run.event(SENT, 4, 7, 0, 20).event(STATE, 4, state, 0, 21);
            run.due("sent(4, 20)", 7).due("sent(4, 21)", -1).due("sent(4, 99999)", -1).due("state(4, 21)", state);
            run.event(SENT, 4, 8, 0, 21).due("sent(4, 21)", 8).event(SENT, 4, 9, 0, 30).due("sent(4, 30)", 9);
            run.event(STATE, 4, state, 0, 31).due("sent(4, 30)", 9).due("sent(4, 31)", -1);
            run.end();
        }
    }

    private static void nodesOfStreets() {
        for (int kind : new int[] {STREET, CLOSED}) {
            Run run = new Run("NODES 0 .. 7, of kind " + kind);
            run.unknownBeside("event(" + kind + ", #, 3, 5, 0)", 0, 7);
            run.unknownBeside("event(" + kind + ", 3, #, 5, 0)", 0, 7);
            run.event(kind, 0, 7, 5, 0).event(kind, 7, 0, 6, 0).event(kind, 7, 6, 7, 0).event(kind, 1, 0, 8, 0);
            run.due("way(0, 7, 0)", kind == STREET ? 6 : -1).due("way(0, 6, 0)", kind == STREET ? 13 : -1);
            run.due("way(0, 1, 0)", kind == STREET ? 8 : -1);
            run.end();
        }
    }

    private static void notOneNode() {
        Run run = new Run("between nodes a and b (not one)");
        for (int node = 0; node <= 7; node++) {
            run.unknown("event(2, " + node + ", " + node + ", 5, 0)");
            run.unknown("event(3, " + node + ", " + node + ", 5, 0)");
        }
        run.due("cover(0)", -1);
        run.end();
    }

    private static void metres() {
        Run run = new Run("c metres (1 .. 999)");
        run.outsideBeside("event(2, 0, 7, #, 0)", 1, 999);
        run.event(STREET, 0, 7, 1, 0).due("way(0, 7, 0)", 1);
        run.event(STREET, 0, 7, 999, 1).due("way(0, 7, 1)", 999);
        run.outsideBeside("event(2, 7, 0, #, 2)", 1, 999);
        run.end();
    }

    private static void noStreetAtFirst() {
        Run run = new Run("between them there is none (as at first)");
        run.event(CLOSED, 0, 1, 0, 5).event(STREET, 0, 1, 9, 10);
        run.due("way(0, 1, 4)", -1).due("way(0, 1, 5)", -1).due("way(0, 1, 9)", -1).due("way(0, 1, 10)", 9);
        run.dueForEach("way(0, #, 10)", 2, 7, -1);
        run.event(CLOSED, 0, 1, 0, 11).due("way(0, 1, 11)", -1).due("way(0, 1, 99999)", -1).due("way(0, 1, 10)", 9);
        run.event(CLOSED, 0, 1, 0, 12).due("way(0, 1, 12)", -1);
        run.end();
    }

    private static void bothWays() {
        Run run = new Run("Both ways");
        run.event(PLACE, 1, 6, 0, 0).event(STREET, 6, 0, 44, 10).due("way(0, 6, 10)", 44).due("way(1, 0, 10)", 44);
        run.event(STREET, 0, 6, 33, 11).due("way(0, 6, 11)", 33).due("way(1, 0, 11)", 33);
        run.event(CLOSED, 6, 0, 0, 12).due("way(0, 6, 12)", -1).due("way(1, 0, 12)", -1);
        run.event(STREET, 6, 0, 22, 13).event(CLOSED, 0, 6, 0, 14);
        run.due("way(0, 6, 13)", 22).due("way(1, 0, 13)", 22).due("way(0, 6, 14)", -1).due("way(1, 0, 14)", -1);
        run.end();
    }

    private static void latestOfBothKinds() {
        Run run = new Run("the latest of both kinds for the two nodes");
        run.event(STREET, 0, 1, 10, 10).event(CLOSED, 0, 1, 0, 20).event(STREET, 0, 1, 30, 30);
        run.due("way(0, 1, 19)", 10).due("way(0, 1, 20)", -1).due("way(0, 1, 29)", -1).due("way(0, 1, 30)", 30);
        run.event(CLOSED, 1, 0, 0, 15).due("way(0, 1, 14)", 10).due("way(0, 1, 15)", -1).due("way(0, 1, 30)", 30);
        run.event(STREET, 1, 0, 25, 25).due("way(0, 1, 24)", -1).due("way(0, 1, 25)", 25).due("way(0, 1, 30)", 30);
        run.event(STREET, 1, 0, 5, 20).due("way(0, 1, 20)", -1).event(CLOSED, 0, 2, 0, 40).due("way(0, 1, 40)", 30);
        run.end();
    }

    private static void nodesOfWays() {
        Run run = new Run("no such unit or node");
        run.event(STREET, 0, 7, 5, 0).due("way(9, 0, 0)", 0).due("way(9, 7, 0)", 5);
        run.unknownBeside("way(9, #, 0)", 0, 7).unknownBeside("way(0, #, 0)", 0, 7);
        run.unknown("way(10, 8, 0)").unknown("way(-1, -1, 0)").unknown("way(10, -1, 0)").unknown("way(-1, 8, 0)");
        run.end();
    }

    private static void ownNode() {
        Run run = new Run("0 at its own node");
        for (int node = 0; node <= 7; node++) {
            run.event(PLACE, 4, node, 0, node).due("way(4, " + node + ", " + node + ")", 0);
        }
        chainOfAllNodes(run, 1);
        for (int node = 0; node <= 7; node++) {
            run.due("way(4, " + node + ", " + node + ")", 0);
        }
        run.end();
    }

    private static void withoutAWay() {
        Run run = new Run("-1 without one");
        run.event(STREET, 0, 1, 5, 10).event(STREET, 2, 3, 6, 10).dueForEach("way(0, #, 10)", 2, 7, -1);
        run.event(STREET, 1, 2, 7, 11).due("way(0, 2, 10)", -1).due("way(0, 2, 11)", 12).due("way(0, 3, 11)", 18);
        run.event(CLOSED, 1, 2, 0, 12).due("way(0, 1, 12)", 5).due("way(0, 2, 12)", -1).due("way(0, 3, 12)", -1);
        run.end();
    }

    private static void longestWay() {
        Run run = new Run("the least sum of metres over streets, over all of them");
        chainOfAllNodes(run, 999);
        for (int node = 0; node <= 7; node++) {
            run.event(PLACE, node, node, 0, 0);
        }
        for (int node = 0; node <= 7; node++) {
            run.due("way(0, " + node + ", 0)", 999 * node).due("way(7, " + node + ", 0)", 999 * (7 - node));
            run.due("way(" + node + ", 3, 0)", 999 * Math.abs(node - 3));
        }
        run.end();
    }

    private static void leastSum() {
        Run run = new Run("the least sum of metres over streets");
        run.event(STREET, 0, 7, 999, 0).event(STREET, 0, 3, 500, 1).event(STREET, 3, 7, 500, 1);
        run.due("way(0, 7, 1)", 999).event(STREET, 3, 7, 499, 2).due("way(0, 7, 2)", 999);
        run.event(STREET, 3, 7, 498, 3).due("way(0, 7, 3)", 998).event(CLOSED, 0, 3, 0, 4).due("way(0, 7, 4)", 999);
        Run many = new Run("the least sum of metres over streets, many before one");
        chainOfAllNodes(many, 142);
        many.event(STREET, 0, 7, 999, 0).due("way(0, 7, 0)", 994).event(STREET, 7, 0, 993, 1).due("way(0, 7, 1)", 993);
        many.due("way(0, 6, 0)", 852).due("way(0, 6, 1)", 852).event(CLOSED, 2, 3, 0, 2).due("way(0, 3, 2)", 1561);
        many.end();
        run.end();
    }

    private static void overEachNode() {
        for (int middle = 0; middle <= 7; middle++) {
            Run run = new Run("over streets, over node " + middle);
            for (int node = 0; node <= 7; node++) {
                if (node != middle) {
                    run.event(STREET, middle, node, 10 + node, 0).event(PLACE, node, node, 0, 0);
                }
            }
            for (int from = 0; from <= 7; from++) {
                for (int to = 0; to <= 7; to++) {
                    if (from != middle && to != middle) {
                        run.due("way(" + from + ", " + to + ", 0)", from == to ? 0 : 20 + from + to);
                    }
                }
            }
            run.end();
        }
    }
}
