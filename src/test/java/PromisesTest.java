/** Each promise of the document with ordinary inputs, the edges that it names, and wrong inputs. */
public final class PromisesTest extends Words {
    private PromisesTest() {
    }

    public static void main(String[] args) {
        newObject();
        eventTakesAllEdges();
        eventRefusesUnknown();
        eventRefusesOutside();
        eventHasRoomForTwoHundred();
        fullRowAnswers();
        orderOfEvents();
        backAndForth();
        kindsLeaveOthersAlone();
        state();
        sent();
        way();
        wayOverManyNodes();
        call();
        callOpenAndServed();
        best();
        bestFirstByCalls();
        bestRanksBeforeWays();
        bestLeavesOut();
        bestNotTried();
        cover();
        coverOfFirstNode();
        hears();
        hearsWithoutChannel();
        hearsOneSpeaker();
        sector();
        missing();
        count();
        eventsAndRefused();
        objectsAreApart();
        Run.close();
    }

    private static void newObject() {
        Run run = new Run("promise 1");
        for (int unit = 0; unit <= 9; unit++) {
            run.due("state(" + unit + ", 99999)", 0).due("sent(" + unit + ", 99999)", -1);
            run.due("hears(" + unit + ", 99999)", 0);
            run.due("way(" + unit + ", 0, 99999)", 0).due("way(" + unit + ", 7, 99999)", -1);
            run.notInState("call(" + unit + ", 2, 99999)");
        }
        for (int person = 0; person <= 19; person++) {
            run.due("sector(" + person + ", 99999)", -1);
        }
        for (int sector = 0; sector <= 5; sector++) {
            run.due("missing(" + sector + ", 0, 0, 99999)", -1);
        }
        run.due("cover(99999)", -1).due("best(0, 99999)", -2).due("best(12, 99999)", -2);
        run.due("count(-1, -2147483648, 2147483647)", 0);
        run.end();
    }

    private static void eventTakesAllEdges() {
        Run run = new Run("promise 2, edges taken");
        run.event(STATE, 0, 0, LOW, 0).event(STATE, 9, 3, HIGH, 99999);
        run.event(PLACE, 0, 0, LOW, 0).event(PLACE, 9, 7, HIGH, 99999);
        run.event(STREET, 0, 7, 1, 0).event(STREET, 7, 0, 999, 99999);
        run.event(CLOSED, 0, 7, LOW, 0).event(CLOSED, 7, 0, HIGH, 99999);
        run.event(CALL, 0, 0, 1, 0).event(CALL, 9, 7, 9, 99999);
        run.event(SENT, 0, 0, LOW, 0).event(SENT, 9, 9, HIGH, 99999);
        run.event(ENDED, 0, LOW, LOW, 0).event(ENDED, 9, HIGH, HIGH, 99999);
        run.event(PERSON, 0, -1, LOW, 0).event(PERSON, 19, 5, HIGH, 99999);
        run.event(LISTENS, 0, -1, LOW, 0).event(LISTENS, 9, 3, HIGH, 99999);
        run.event(SPEAKS, 0, 0, 1, 0).event(SPEAKS, 9, 3, 99, 99999);
        run.end();
    }

    private static void eventRefusesUnknown() {
        Run run = new Run("promise 2, unknown");
        run.unknown("event(-1, 0, 0, 1, 0)").unknown("event(10, 0, 0, 1, 0)");
        run.unknown("event(2147483647, 0, 0, 1, 0)").unknown("event(-2147483648, 0, 0, 1, 0)");
        int[] firstBeyond = {10, 10, 8, 8, 10, 10, 10, 20, 10, 10};
        int[] secondBelow = {-1, -1, -1, -1, -1, -1, 0, -2, -2, -1};
        int[] secondBeyond = {4, 8, 8, 8, 8, 10, 0, 6, 4, 4};
        for (int kind = 0; kind <= 9; kind++) {
            run.unknown("event(" + kind + ", " + firstBeyond[kind] + ", 1, 1, 0)");
            run.unknown("event(" + kind + ", -1, 1, 1, 0)");
            run.unknown("event(" + kind + ", 2147483647, 1, 1, 0)");
            run.unknown("event(" + kind + ", -2147483648, 1, 1, 0)");
            if (kind != ENDED) {
                run.unknown("event(" + kind + ", 0, " + secondBelow[kind] + ", 1, 0)");
                run.unknown("event(" + kind + ", 0, " + secondBeyond[kind] + ", 1, 0)");
                run.unknown("event(" + kind + ", 0, 2147483647, 1, 0)");
                run.unknown("event(" + kind + ", 0, -2147483648, 1, 0)");
            }
        }
        for (int node = 0; node <= 7; node++) {
            run.unknown("event(2, " + node + ", " + node + ", 1, 0)");
            run.unknown("event(3, " + node + ", " + node + ", 1, 0)");
        }
        run.unknown("event(2, 0, 0, 0, -1)").unknown("event(9, 10, 0, 100, 100000)");
        run.end();
    }

    private static void eventRefusesOutside() {
        Run run = new Run("promise 2, outside");
        run.outside("event(2, 0, 1, 0, 0)").outside("event(2, 0, 1, 1000, 0)").outside("event(2, 0, 1, -5, 0)");
        run.outside("event(4, 0, 0, 0, 0)").outside("event(4, 0, 0, 10, 0)").outside("event(4, 0, 0, -1, 0)");
        run.outside("event(9, 0, 0, 0, 0)").outside("event(9, 0, 0, 100, 0)").outside("event(9, 0, 0, -1, 0)");
        for (int kind = 0; kind <= 9; kind++) {
            run.outside("event(" + kind + ", 0, 1, 1, -1)").outside("event(" + kind + ", 0, 1, 1, 100000)");
            run.outside("event(" + kind + ", 0, 1, 1, 2147483647)").outside("event(" + kind + ", 0, 1, 1, -2147483648)");
        }
        run.due("count(-1, -2147483648, 2147483647)", 0);
        run.end();
    }

    private static void eventHasRoomForTwoHundred() {
        Run run = new Run("promise 2, room");
        for (int i = 0; i < 200; i++) {
            run.event(PLACE, i % 10, i % 8, 0, 99999 - i);
        }
        run.due("events()", 200).due("count(1, 99800, 100000)", 200);
        run.noRoom("event(0, 0, 0, 0, 0)").noRoom("event(9, 9, 3, 99, 99999)").noRoom("event(6, 0, -9, -9, 5)");
        run.unknown("event(10, 0, 0, 0, 0)").unknown("event(2, 3, 3, 5, 100000)");
        run.outside("event(0, 0, 0, 0, 100000)").outside("event(4, 0, 0, 10, 0)");
        run.due("way(9, 1, 99999)", 0).due("way(9, 3, 99989)", 0).due("way(9, 1, 99989)", -1).due("state(0, 99999)", 0);
        run.end();
    }

    private static void fullRowAnswers() {
        Run run = onlyFirstUnitsFree("promise 2, full row", 5);
        run.event(STREET, 0, 1, 4, 0).event(CALL, 0, 1, 2, 0).event(PERSON, 19, 5, 0, 0).event(LISTENS, 0, 2, 0, 0);
        for (int i = 9; i < 200; i++) {
            run.event(SPEAKS, 9, 2, 1 + i % 99, 99999);
        }
        run.noRoom("event(0, 0, 0, 0, 0)");
        run.due("state(9, 99999)", 2).due("sent(0, 99999)", -1).due("way(0, 1, 99999)", 4).due("call(0, 1, 99999)", 2);
        run.due("best(1, 99999)", 4).due("cover(99999)", 4).due("hears(0, 99999)", 2).due("sector(19, 99999)", 5);
        run.due("missing(5, 0, 0, 99999)", 19).due("count(-1, 0, 100000)", 200).due("count(9, 0, 100000)", 191);
        run.end();
    }

    private static void orderOfEvents() {
        Run run = new Run("as of");
        run.event(STATE, 0, OUT, 0, 20).event(STATE, 0, OFF, 0, 10).event(STATE, 0, DRILLING, 0, 15);
        run.due("state(0, 9)", 0).due("state(0, 10)", 2).due("state(0, 14)", 2).due("state(0, 15)", 3);
        run.due("state(0, 19)", 3).due("state(0, 20)", 1).due("state(0, 99999)", 1);
        run.event(STATE, 0, FREE, 0, 15).due("state(0, 15)", 0);
        run.event(STATE, 0, OUT, 0, 15).due("state(0, 15)", 1);
        run.event(PLACE, 0, 7, 3, 4).event(PLACE, 0, 2, 1, 4).event(STREET, 2, 3, 5, 4).due("way(0, 3, 4)", 5);
        run.event(PERSON, 4, 5, 0, 0).event(PERSON, 4, 1, 0, 0).due("sector(4, 0)", 1);
        run.event(PERSON, 4, -1, 0, 0).due("sector(4, 0)", -1);
        run.end();
    }

    /** An answer as of an early second stays the same after one as of a late second. */
    private static void backAndForth() {
        Run run = onlyFirstUnitsFree("as of, back and forth", 1);
        run.event(STATE, 0, DRILLING, 0, 10).event(PLACE, 0, 3, 0, 10).event(STREET, 3, 0, 9, 10).event(CALL, 0, 0, 4, 10);
        run.event(SENT, 0, 2, 0, 11).event(PERSON, 0, 0, 0, 10).event(LISTENS, 0, 0, 0, 10);
        run.event(SPEAKS, 1, 0, 5, 10).event(SPEAKS, 1, 0, 6, 9);
        for (int i = 0; i < 2; i++) {
            run.due("state(0, 10)", 3).due("state(0, 9)", 0).due("sent(0, 11)", 2).due("sent(0, 9)", -1);
            run.due("way(0, 3, 10)", 0).due("way(0, 0, 10)", 9).due("way(0, 0, 9)", 0).due("way(0, 3, 9)", -1);
            run.due("call(0, 1, 10)", 4).notInState("call(0, 1, 9)").due("best(0, 11)", 0).due("best(0, 9)", 0);
            run.due("sector(0, 10)", 0).due("sector(0, 9)", -1).due("hears(0, 10)", 5).due("hears(0, 9)", 0);
        }
        run.event(STATE, 0, FREE, 0, 12).due("best(0, 12)", 4).due("best(1, 12)", 9).due("best(3, 12)", 0);
        run.due("best(0, 9)", 0).due("best(1, 9)", 0).due("best(2, 9)", 0).due("best(3, 9)", -1);
        run.end();
    }

    /** One event of each kind, all with the same small numbers. */
    private static void kindsLeaveOthersAlone() {
        for (int kind = 0; kind <= 9; kind++) {
            Run run = new Run("only kind " + kind);
            run.event(kind, 1, 2, 3, 4);
            run.due("state(1, 4)", kind == STATE ? 2 : 0).due("sent(1, 4)", kind == SENT ? 2 : -1);
            run.due("way(1, 2, 4)", kind == PLACE ? 0 : -1).due("way(1, 0, 4)", kind == PLACE ? -1 : 0);
            run.due("cover(4)", -1).due("sector(1, 4)", kind == PERSON ? 2 : -1);
            run.due("missing(2, 0, 0, 4)", kind == PERSON ? 1 : -1).due("best(0, 4)", -2);
            if (kind == CALL) {
                run.due("call(1, 0, 4)", 2).due("call(1, 1, 4)", 3).due("call(1, 2, 4)", 1).due("call(1, 3, 4)", 0);
            } else {
                run.notInState("call(1, 0, 4)").notInState("call(2, 0, 4)");
            }
            run.event(LISTENS, 0, 2, 0, 3).due("hears(0, 4)", kind == SPEAKS ? 3 : 0);
            run.event(SPEAKS, 0, 2, 8, 5).due("hears(1, 5)", kind == LISTENS ? 8 : 0);
            run.event(PLACE, 3, 1, 0, 5).due("way(3, 2, 5)", kind == STREET ? 3 : -1);
            run.end();
        }
    }

    private static void state() {
        Run run = new Run("promise 3");
        run.event(STATE, 0, DRILLING, 0, 0).event(STATE, 9, OUT, 0, 99999).event(STATE, 5, OFF, 0, 7);
        run.due("state(0, 0)", 3).due("state(9, 99998)", 0).due("state(9, 99999)", 1);
        run.due("state(5, 6)", 0).due("state(5, 7)", 2).due("state(4, 7)", 0).due("state(6, 7)", 0);
        run.event(SENT, 5, 3, 0, 8).due("state(5, 8)", 2);
        refusesUnitsAndSeconds(run, "state");
        run.end();
    }

    private static void sent() {
        Run run = new Run("promise 4");
        run.event(SENT, 1, 4, 0, 10);
        run.due("sent(1, 9)", -1).due("sent(1, 10)", 4).due("sent(1, 99999)", 4).due("sent(0, 10)", -1);
        run.event(SENT, 1, 2, 0, 12).due("sent(1, 11)", 4).due("sent(1, 12)", 2);
        run.event(STATE, 1, OUT, 0, 10).due("sent(1, 10)", 4);
        run.event(STATE, 1, FREE, 0, 11).due("sent(1, 10)", 4).due("sent(1, 11)", -1).due("sent(1, 12)", 2);
        run.event(STATE, 1, OUT, 0, 12).due("sent(1, 12)", 2).due("state(1, 12)", 1);
        run.event(STATE, 1, DRILLING, 0, 13).due("sent(1, 13)", -1);
        run.event(SENT, 1, 9, 0, 12).due("sent(1, 12)", 9).event(SENT, 1, 0, 0, 12).due("sent(1, 12)", 0);
        run.event(PLACE, 1, 3, 0, 12).event(ENDED, 0, 0, 0, 12).due("sent(1, 12)", 0);
        refusesUnitsAndSeconds(run, "sent");
        run.end();
    }

    private static void way() {
        Run run = new Run("promise 5");
        run.event(STREET, 0, 1, 999, 5).due("way(0, 1, 4)", -1).due("way(0, 1, 5)", 999).due("way(0, 0, 5)", 0);
        run.event(STREET, 1, 0, 7, 6).due("way(0, 1, 5)", 999).due("way(0, 1, 6)", 7);
        run.event(PLACE, 0, 1, 0, 7).due("way(0, 0, 7)", 7).due("way(0, 1, 7)", 0).due("way(1, 1, 7)", 7);
        run.event(CLOSED, 0, 1, 0, 8).due("way(0, 0, 8)", -1).due("way(0, 1, 8)", 0);
        run.event(STREET, 0, 1, 3, 8).due("way(0, 0, 8)", -1);
        run.event(STREET, 0, 1, 3, 9).due("way(0, 0, 9)", 3).due("way(0, 0, 7)", 7);
        run.event(STREET, 0, 1, 4, 9).due("way(0, 0, 9)", 4).event(STREET, 1, 0, 2, 9).due("way(0, 0, 9)", 2);
        run.unknown("way(0, 8, 9)").unknown("way(0, -1, 9)").unknown("way(10, 0, 9)").unknown("way(-1, 0, 9)");
        run.unknown("way(2147483647, 0, -1)").unknown("way(0, -2147483648, 100000)");
        run.outside("way(0, 0, -1)").outside("way(9, 7, 100000)").outside("way(0, 0, 2147483647)");
        run.outside("way(0, 0, -2147483648)");
        run.end();
    }

    private static void wayOverManyNodes() {
        Run run = new Run("promise 5, many nodes");
        int[] chain = {3, 6, 1, 7, 0, 4, 2, 5};
        for (int i = 0; i + 1 < chain.length; i++) {
            run.event(STREET, chain[i], chain[i + 1], 999, i);
        }
        run.event(PLACE, 8, 3, 0, 0).event(PLACE, 9, 5, 0, 0);
        run.due("way(8, 5, 6)", 6993).due("way(9, 3, 6)", 6993).due("way(8, 5, 5)", -1).due("way(8, 2, 5)", 5994);
        run.event(STREET, 3, 5, 999, 7).due("way(8, 5, 7)", 999).due("way(8, 0, 7)", 3996).due("way(8, 4, 7)", 2997);
        run.due("way(0, 2, 6)", 1998).due("way(0, 3, 6)", 3996).due("way(0, 5, 6)", 2997).due("way(0, 1, 6)", 1998);
        run.end();
    }

    private static void call() {
        Run run = new Run("promise 6");
        run.event(CALL, 3, 7, 9, 10);
        run.notInState("call(3, 0, 9)").notInState("call(3, 1, 9)").notInState("call(3, 2, 9)");
        run.notInState("call(3, 3, 0)").notInState("call(4, 0, 99999)");
        run.due("call(3, 0, 10)", 7).due("call(3, 1, 10)", 9).due("call(3, 2, 10)", 1).due("call(3, 3, 10)", 0);
        run.event(CALL, 3, 0, 1, 12).due("call(3, 0, 11)", 7).due("call(3, 0, 12)", 0).due("call(3, 1, 12)", 1);
        run.event(CALL, 3, 2, 5, 12).due("call(3, 0, 12)", 2).due("call(3, 1, 12)", 5);
        run.event(CALL, 3, 1, 2, 12).due("call(3, 0, 12)", 1).due("call(3, 1, 12)", 2);
        run.event(ENDED, 5, 0, 0, 1).notInState("call(5, 2, 99999)");
        run.event(SENT, 0, 6, 0, 1).notInState("call(6, 3, 99999)");
        run.unknown("call(-1, 0, 10)").unknown("call(10, 0, 10)").unknown("call(3, -1, 10)").unknown("call(3, 4, 10)");
        run.unknown("call(3, 4, -1)").unknown("call(2147483647, -2147483648, 100000)");
        run.outside("call(3, 0, -1)").outside("call(3, 3, 100000)").outside("call(4, 0, 100000)");
        run.outside("call(4, 0, -2147483648)");
        run.end();
    }

    private static void callOpenAndServed() {
        Run run = new Run("promise 6, open and served");
        run.event(CALL, 9, 4, 6, 10).event(ENDED, 9, 0, 0, 10).due("call(9, 2, 10)", 0);
        run.event(CALL, 9, 4, 6, 11).due("call(9, 2, 10)", 0).due("call(9, 2, 11)", 1);
        run.event(ENDED, 9, 0, 0, 15).due("call(9, 2, 14)", 1).due("call(9, 2, 15)", 0).due("call(9, 0, 15)", 4);
        run.event(ENDED, 9, 0, 0, 9).due("call(9, 2, 11)", 1);
        run.event(SENT, 2, 9, 0, 12).due("call(9, 3, 11)", 0).due("call(9, 3, 12)", 1).due("call(9, 3, 15)", 1);
        run.event(SENT, 7, 9, 0, 13).event(STATE, 2, FREE, 0, 14).due("call(9, 3, 14)", 1);
        run.event(SENT, 7, 8, 0, 16).due("call(9, 3, 15)", 1).due("call(9, 3, 16)", 0);
        run.event(SENT, 0, 9, 0, 5).due("call(9, 3, 10)", 1).due("call(9, 3, 16)", 1);
        run.end();
    }

    private static void best() {
        Run run = onlyFirstUnitsFree("promise 7", 2);
        run.event(STREET, 0, 1, 10, 0).event(STREET, 1, 2, 20, 0).event(PLACE, 1, 2, 0, 0);
        run.due("best(0, 0)", 0).due("best(1, 0)", 0).due("best(2, 0)", 0);
        for (int what = 3; what <= 12; what++) {
            run.due("best(" + what + ", 0)", -1);
        }
        run.event(CALL, 9, 1, 4, 5).event(CALL, 0, 2, 2, 6);
        run.due("best(0, 5)", 4).due("best(1, 5)", 10).due("best(2, 5)", 1).due("best(12, 5)", 0).due("best(3, 5)", -1);
        run.due("best(0, 6)", 6).due("best(1, 6)", 10).due("best(2, 6)", 2).due("best(12, 6)", 0).due("best(3, 6)", 1);
        run.event(ENDED, 9, 0, 0, 7).due("best(0, 7)", 2).due("best(1, 7)", 0).due("best(12, 7)", -1);
        run.unknown("best(-1, 0)").unknown("best(13, 0)").unknown("best(2147483647, -1)");
        run.unknown("best(-2147483648, 100000)");
        run.outside("best(0, -1)").outside("best(12, 100000)").outside("best(0, 2147483647)");
        run.end();
    }

    private static void bestFirstByCalls() {
        Run run = onlyFirstUnitsFree("promise 7, first by calls", 3);
        run.event(STREET, 0, 1, 10, 0);
        run.event(CALL, 2, 1, 5, 1).event(CALL, 4, 1, 5, 1);
        run.due("best(0, 1)", 10).due("best(1, 1)", 20).due("best(2, 1)", 2);
        run.due("best(5, 1)", 0).due("best(7, 1)", 1);
        run.event(PLACE, 0, 5, 0, 2).due("best(5, 2)", 1).due("best(7, 2)", 2).due("best(2, 2)", 2);
        run.event(PLACE, 1, 5, 0, 3).due("best(5, 3)", 2).due("best(7, 3)", -1).due("best(2, 3)", 1);
        run.end();
    }

    private static void bestRanksBeforeWays() {
        Run run = onlyFirstUnitsFree("promise 7, ranks before ways", 1);
        run.event(STREET, 0, 1, 999, 0).event(CALL, 0, 0, 4, 0).event(CALL, 1, 1, 5, 0);
        run.due("best(0, 0)", 5).due("best(1, 0)", 999).due("best(2, 0)", 1).due("best(3, 0)", -1).due("best(4, 0)", 0);
        run.event(CALL, 1, 1, 4, 1).due("best(0, 1)", 4).due("best(1, 1)", 0).due("best(3, 1)", 0).due("best(4, 1)", -1);
        run.event(STATE, 1, FREE, 0, 2).event(PLACE, 1, 1, 0, 2);
        run.due("best(0, 2)", 8).due("best(1, 2)", 0).due("best(3, 2)", 0).due("best(4, 2)", 1);
        run.event(PLACE, 0, 1, 0, 3).event(PLACE, 1, 0, 0, 3);
        run.due("best(1, 3)", 0).due("best(3, 3)", 1).due("best(4, 3)", 0);
        run.end();
    }

    private static void bestLeavesOut() {
        Run run = onlyFirstUnitsFree("promise 7, left out", 3);
        run.event(STREET, 0, 1, 10, 0).event(CALL, 0, 1, 3, 0).event(CALL, 1, 7, 9, 0);
        run.due("best(0, 0)", 3).due("best(3, 0)", 0).due("best(4, 0)", -1).due("best(2, 0)", 1);
        run.event(SENT, 9, 0, 0, 1).due("best(0, 1)", 0).due("best(3, 1)", -1);
        run.event(STATE, 9, OFF, 0, 2).due("best(3, 2)", 0);
        run.event(STATE, 0, OUT, 0, 3).due("best(3, 3)", 1);
        run.event(SENT, 1, 5, 0, 4).due("best(3, 4)", 2).due("best(0, 4)", 3);
        run.event(STATE, 2, DRILLING, 0, 5).due("best(3, 5)", -1).due("best(0, 5)", 0).due("best(2, 5)", 0);
        run.event(PLACE, 1, 7, 0, 6).event(STATE, 1, FREE, 0, 6).due("best(4, 6)", 1).due("best(1, 6)", 0);
        run.end();
    }

    private static void bestNotTried() {
        Run run = onlyFirstUnitsFree("promise 7, not tried", 5);
        run.due("best(0, 0)", 0);
        run.event(STATE, 8, FREE, 0, 1);
        for (int what = 0; what <= 12; what++) {
            run.due("best(" + what + ", 1)", -2);
        }
        run.event(SENT, 0, 9, 0, 2).due("best(0, 2)", 0).due("best(1, 2)", 0).due("best(3, 2)", -1);
        for (int call = 0; call < 5; call++) {
            run.event(CALL, call, 7, 1, 3);
        }
        run.due("best(0, 3)", 0).due("best(3, 3)", -1);
        run.event(CALL, 9, 0, 1, 4).due("best(0, 4)", 0);
        run.event(STATE, 0, OUT, 0, 5);
        for (int what = 0; what <= 12; what++) {
            run.due("best(" + what + ", 5)", -2);
        }
        run.event(ENDED, 0, 0, 0, 6).due("best(0, 6)", 1).due("best(12, 6)", 1);
        run.end();
    }

    private static void cover() {
        Run run = onlyFirstUnitsFree("promise 8", 2);
        run.due("cover(0)", -1);
        run.event(STREET, 3, 4, 30, 1).due("cover(1)", -1).due("cover(0)", -1);
        run.event(PLACE, 0, 3, 0, 2).due("cover(2)", 30);
        run.event(PLACE, 1, 4, 0, 3).due("cover(3)", 0);
        run.event(STREET, 4, 5, 7, 4).event(STREET, 5, 6, 8, 4).due("cover(4)", 15);
        run.event(STREET, 0, 1, 1, 5).due("cover(5)", -1);
        run.event(CLOSED, 1, 0, 0, 6).due("cover(6)", 15);
        run.event(SENT, 1, 0, 0, 7).due("cover(7)", 45);
        run.event(STATE, 1, OUT, 0, 8).due("cover(8)", 45).event(STATE, 1, FREE, 0, 9).due("cover(9)", 15);
        run.event(STATE, 0, OFF, 0, 10).due("cover(10)", 30);
        run.event(STATE, 1, DRILLING, 0, 11).due("cover(11)", -1);
        for (int unit = 0; unit < 6; unit++) {
            run.event(STATE, unit, FREE, 0, 12).event(PLACE, unit, 6, 0, 12);
        }
        run.due("cover(12)", 45);
        run.outside("cover(-1)").outside("cover(100000)").outside("cover(2147483647)").outside("cover(-2147483648)");
        run.end();
    }

    private static void coverOfFirstNode() {
        Run run = onlyFirstUnitsFree("promise 8, first node", 1);
        run.event(PLACE, 0, 1, 0, 0).event(STREET, 0, 1, 12, 0).due("cover(0)", 12);
        run.event(PLACE, 0, 7, 0, 1).event(STREET, 7, 0, 5, 1).due("cover(1)", 17);
        run.end();
    }

    private static void hearsWithoutChannel() {
        Run run = new Run("promise 9, no channel");
        for (int channel = 0; channel <= 3; channel++) {
            run.event(SPEAKS, 1, channel, 11 + channel, 0);
        }
        run.due("hears(0, 0)", 0);
        for (int channel = 0; channel <= 3; channel++) {
            run.event(LISTENS, 0, channel, 0, 0).due("hears(0, 0)", 11 + channel);
        }
        run.event(LISTENS, 0, -1, 0, 0).due("hears(0, 0)", 0);
        Run first = new Run("promise 9, the first event");
        first.event(SPEAKS, 1, 2, 5, 3).due("hears(0, 3)", 0).event(LISTENS, 0, 2, 0, 3).due("hears(0, 3)", 5);
        run.end();
        first.end();
    }

    private static void hears() {
        Run run = new Run("promise 9");
        run.event(LISTENS, 0, 3, 0, 10).event(SPEAKS, 1, 3, 99, 10).event(SPEAKS, 1, 3, 1, 11);
        run.due("hears(0, 9)", 0).due("hears(0, 10)", 99).due("hears(0, 11)", 1).due("hears(0, 12)", 0);
        run.due("hears(1, 10)", 0).due("hears(2, 10)", 0);
        run.event(LISTENS, 0, 2, 0, 11).due("hears(0, 11)", 0).due("hears(0, 10)", 99);
        run.event(SPEAKS, 9, 2, 50, 11).due("hears(0, 11)", 50);
        run.event(LISTENS, 0, -1, 0, 11).due("hears(0, 11)", 0);
        run.event(LISTENS, 0, 0, 0, 11).event(SPEAKS, 8, 0, 5, 11).due("hears(0, 11)", 5);
        run.event(SPEAKS, 8, 0, 6, 11).due("hears(0, 11)", 6).event(SPEAKS, 8, 0, 4, 11).due("hears(0, 11)", 4);
        refusesUnitsAndSeconds(run, "hears");
        run.end();
    }

    private static void hearsOneSpeaker() {
        Run run = new Run("promise 9, one speaker");
        run.event(LISTENS, 0, 1, 0, 0).event(LISTENS, 4, 1, 0, 0).event(SPEAKS, 0, 1, 7, 5);
        run.due("hears(0, 5)", 0).due("hears(4, 5)", 7);
        run.event(SPEAKS, 3, 1, 8, 5).due("hears(0, 5)", 0).due("hears(4, 5)", 0);
        run.event(SPEAKS, 0, 1, 9, 5).due("hears(4, 5)", 0);
        run.event(SPEAKS, 3, 1, 20, 6).event(SPEAKS, 2, 0, 21, 6).due("hears(0, 6)", 20).due("hears(4, 6)", 20);
        run.event(SPEAKS, 3, 2, 22, 6).due("hears(0, 6)", 20);
        run.event(SPEAKS, 3, 1, 30, 7).event(SPEAKS, 2, 1, 30, 7).due("hears(0, 7)", 0);
        run.event(SPEAKS, 3, 1, 31, 8).event(STATE, 3, OFF, 0, 0).due("hears(0, 8)", 31);
        run.end();
    }

    private static void sector() {
        Run run = new Run("promise 10");
        run.event(PERSON, 0, 0, 0, 10).event(PERSON, 19, 5, 0, 99999).event(PERSON, 0, -1, 0, 20);
        run.due("sector(0, 9)", -1).due("sector(0, 10)", 0).due("sector(0, 19)", 0).due("sector(0, 20)", -1);
        run.due("sector(19, 99998)", -1).due("sector(19, 99999)", 5).due("sector(1, 10)", -1);
        run.event(PERSON, 0, 4, 0, 15).due("sector(0, 14)", 0).due("sector(0, 15)", 4).due("sector(0, 20)", -1);
        run.unknown("sector(-1, 0)").unknown("sector(20, 0)").unknown("sector(2147483647, -1)");
        run.unknown("sector(-2147483648, 100000)");
        run.outside("sector(0, -1)").outside("sector(19, 100000)").outside("sector(0, 2147483647)");
        run.end();
    }

    private static void missing() {
        Run run = new Run("promise 11");
        run.event(PERSON, 19, 5, 0, 1).event(PERSON, 7, 5, 0, 2).event(PERSON, 0, 5, 0, 3).event(PERSON, 1, 0, 0, 0);
        run.due("missing(5, 0, 0, 1)", 19).due("missing(5, 0, 0, 2)", 7).due("missing(5, 0, 1, 2)", 19);
        run.due("missing(5, 0, 0, 3)", 0).due("missing(5, 0, 1, 3)", 7).due("missing(5, 0, 2, 3)", 19);
        run.due("missing(5, 0, 3, 3)", -1).due("missing(5, 0, 2147483647, 3)", -1).due("missing(0, 0, 0, 3)", 1);
        run.due("missing(5, 1, 0, 3)", 7).due("missing(5, 129, 0, 3)", 19).due("missing(5, 524417, 0, 3)", -1);
        run.due("missing(5, 128, 1, 3)", 19).due("missing(5, -2, 0, 3)", 0).due("missing(5, -1, 0, 3)", -1);
        run.due("missing(5, -1048576, 2, 3)", 19).due("missing(5, 2147483647, 0, 3)", -1);
        run.event(PERSON, 0, -1, 0, 4).due("missing(5, 0, 0, 4)", 7).event(PERSON, 7, 2, 0, 5).due("missing(5, 0, 0, 5)", 19);
        run.unknown("missing(-1, 0, 0, 0)").unknown("missing(6, 0, 0, 0)").unknown("missing(6, 0, -1, -1)");
        run.unknown("missing(2147483647, 0, 0, 0)").unknown("missing(-2147483648, 0, 0, 0)");
        run.outside("missing(0, 0, -1, 0)").outside("missing(0, 0, -2147483648, 0)");
        run.outside("missing(0, 0, 0, -1)").outside("missing(0, 0, 0, 100000)");
        run.end();
    }

    private static void count() {
        Run run = new Run("promise 12");
        run.event(STATE, 0, OUT, 0, 0).event(STATE, 0, OUT, 0, 10).event(SPEAKS, 0, 0, 1, 10).event(STATE, 0, OUT, 0, 99999);
        run.due("count(0, 0, 10)", 1).due("count(0, 0, 11)", 2).due("count(0, 10, 11)", 1).due("count(0, 10, 10)", 0);
        run.due("count(9, 10, 11)", 1).due("count(-1, 10, 11)", 2).due("count(-1, 0, 99999)", 3);
        run.due("count(-1, 0, 100000)", 4).due("count(-1, 1, 100000)", 3).due("count(1, 0, 100000)", 0);
        run.due("count(-1, -2147483648, 2147483647)", 4).due("count(0, 2147483647, 2147483647)", 0);
        run.due("count(0, -2147483648, -2147483648)", 0).due("count(0, -5, 1)", 1).due("count(-1, 200000, 300000)", 0);
        run.unknown("count(-2, 0, 0)").unknown("count(10, 0, 0)").unknown("count(10, 1, 0)");
        run.unknown("count(2147483647, 0, 0)").unknown("count(-2147483648, 0, 0)");
        run.outside("count(-1, 1, 0)").outside("count(9, 0, -1)").outside("count(0, 2147483647, -2147483648)");
        run.end();
    }

    private static void eventsAndRefused() {
        Run run = new Run("promises 13 and 14");
        run.due("events()", 0).due("refused()", 0).due("refused()", 0);
        run.event(STATE, 0, OUT, 0, 5).due("events()", 1);
        run.unknown("event(0, 0, 4, 0, 0)").outside("event(0, 0, 3, 0, -1)").due("events()", 1).due("refused()", 2);
        run.unknown("state(10, -1)").outside("state(9, -1)").notInState("call(0, 0, 5)").due("refused()", 5);
        run.event(STATE, 0, OUT, 0, 5).due("events()", 2).due("refused()", 5);
        run.end();
    }

    private static void objectsAreApart() {
        Run one = new Run("promise 1, one object");
        Run other = new Run("promise 1, another object");
        one.event(STATE, 0, OUT, 0, 0).unknown("state(10, 0)");
        other.due("state(0, 0)", 0).due("events()", 0).due("refused()", 0);
        other.event(STATE, 0, OFF, 0, 0);
        one.due("state(0, 0)", 1);
        one.end();
        other.end();
    }

    private static void refusesUnitsAndSeconds(Run run, String method) {
        int[] noUnits = {-1, 10, HIGH, LOW};
        int[] noSeconds = {-1, 100000, HIGH, LOW};
        for (int unit : noUnits) {
            run.unknown(method + "(" + unit + ", 0)");
            run.unknown(method + "(" + unit + ", -1)");
        }
        for (int second : noSeconds) {
            run.outside(method + "(0, " + second + ")");
            run.outside(method + "(9, " + second + ")");
        }
    }
}
