/**
 * The sentences of promises 8 to 11, and of the terms on cover, hearing and persons, that name a boundary case: a test
 * for each, under the sentence's own words. Behind every refused call Run looks whether it was counted and whether all
 * else is as it was.
 */
public final class FieldEdgesTest extends Words {
    private static final int ALL_PERSONS = (1 << 20) - 1;

    private FieldEdgesTest() {
    }

    public static void main(String[] args) {
        noNodeWithAStreet();
        someNodeHasNone();
        onlyNodesWithAStreet();
        ofAFreeUnit();
        coverOfAllNodes();
        greatestOfTheLeast();
        channels();
        words();
        noChannelAtFirst();
        inThisVerySecond();
        justOneUnit();
        anotherUnit();
        latestOfTwoWords();
        onItsChannel();
        fullChannel();
        persons();
        sectors();
        outAtFirst();
        noSuchSector();
        inTheRow();
        belowZero();
        notAmongThoseSeen();
        bitsOfNoPerson();
        Run.close();
    }

    private static void noNodeWithAStreet() {
        Run run = new Run("or there is no such node");
        run.due("cover(0)", -1).due("cover(99999)", -1);
        run.event(STREET, 0, 1, 9, 10).event(CLOSED, 0, 1, 0, 11);
        run.due("cover(9)", -1).due("cover(10)", 9).due("cover(11)", -1).due("cover(99999)", -1);
        run.outsideBeside("cover(#)", 0, 99999);
        run.end();
    }

    private static void someNodeHasNone() {
        Run run = new Run("-1 when some node has none");
        run.event(STREET, 0, 1, 9, 10).event(STREET, 6, 7, 1, 11).due("cover(10)", 9).due("cover(11)", -1);
        run.event(PLACE, 3, 6, 0, 12).due("cover(12)", 9).event(PLACE, 3, 2, 0, 13).due("cover(13)", -1);
        run.event(STREET, 1, 6, 20, 14).due("cover(14)", 30).event(CLOSED, 1, 6, 0, 15).due("cover(15)", -1);
        run.event(CLOSED, 7, 6, 0, 16).due("cover(16)", 9);
        Run first = onlyFirstUnitsFree("-1 when some node has none, the first ones", 1);
        first.event(PLACE, 0, 6, 0, 0).event(STREET, 6, 7, 4, 0).due("cover(0)", 4);
        first.event(STREET, 0, 1, 1, 1).due("cover(1)", -1);
        first.end();
        run.end();
    }

    private static void onlyNodesWithAStreet() {
        Run run = onlyFirstUnitsFree("over all nodes that have some street", 2);
        run.event(PLACE, 0, 3, 0, 0).event(PLACE, 1, 5, 0, 0).event(STREET, 3, 4, 8, 1).due("cover(0)", -1);
        run.due("cover(1)", 8).event(PLACE, 1, 4, 0, 2).due("cover(2)", 0).event(STREET, 7, 4, 6, 3).due("cover(3)", 6);
        run.end();
    }

    private static void ofAFreeUnit() {
        Run run = onlyFirstUnitsFree("of the least way of a free unit to it", 1);
        run.event(STREET, 0, 1, 9, 0).due("cover(0)", 9);
        for (int state = 1; state <= 3; state++) {
            run.event(STATE, 0, state, 0, 10 * state).event(STATE, 0, FREE, 0, 10 * state + 1);
            run.due("cover(" + 10 * state + ")", -1).due("cover(" + (10 * state + 1) + ")", 9);
        }
        run.event(SENT, 0, 5, 0, 40).due("cover(40)", -1).event(STATE, 0, FREE, 0, 41).due("cover(41)", 9);
        run.event(PLACE, 8, 1, 0, 42).due("cover(42)", 9).event(STATE, 8, FREE, 0, 43).due("cover(43)", 0);
        run.end();
    }

    private static void coverOfAllNodes() {
        Run run = new Run("the greatest, over all nodes");
        chainOfAllNodes(run, 999);
        run.due("cover(0)", 6993);
        for (int unit = 0; unit <= 7; unit++) {
            run.event(PLACE, unit, unit, 0, 1);
        }
        run.due("cover(1)", 0).event(PLACE, 7, 6, 0, 2).due("cover(2)", 999).event(CLOSED, 6, 7, 0, 3).due("cover(3)", 0);
        run.end();
    }

    private static void greatestOfTheLeast() {
        Run run = onlyFirstUnitsFree("the greatest of the least way", 2);
        chainOfAllNodes(run, 10);
        run.event(PLACE, 0, 7, 0, 1).due("cover(0)", 70).due("cover(1)", 30);
        run.event(PLACE, 1, 2, 0, 2).event(PLACE, 0, 5, 0, 2).due("cover(2)", 20);
        run.event(STREET, 5, 7, 19, 3).due("cover(3)", 20).event(STREET, 0, 2, 18, 4).due("cover(4)", 19);
        run.event(STATE, 1, DRILLING, 0, 5).due("cover(5)", 48);
        run.end();
    }

    private static void channels() {
        Run run = new Run("CHANNELS 0 .. 3");
        run.unknownBeside("event(8, 4, #, 0, 5)", -1, 3).unknownBeside("event(9, 4, #, 1, 5)", 0, 3);
        run.event(LISTENS, 0, 0, 0, 5).event(LISTENS, 3, 3, 0, 5).event(SPEAKS, 5, 0, 10, 5).event(SPEAKS, 6, 3, 13, 5);
        run.due("hears(0, 5)", 10).due("hears(3, 5)", 13).event(LISTENS, 3, -1, 0, 6).event(SPEAKS, 6, 3, 14, 6);
        run.due("hears(3, 5)", 13).due("hears(3, 6)", 0);
        run.end();
    }

    private static void words() {
        Run run = new Run("word c (1 .. 99)");
        run.outsideBeside("event(9, 4, 0, #, 5)", 1, 99).event(LISTENS, 0, 0, 0, 0);
        run.event(SPEAKS, 4, 0, 1, 5).due("hears(0, 5)", 1).event(SPEAKS, 4, 0, 99, 6).due("hears(0, 6)", 99);
        run.outsideBeside("event(9, 4, 0, #, 7)", 1, 99);
        run.end();
    }

    private static void noChannelAtFirst() {
        Run run = new Run("-1: none, as at first; 0 when it has no channel");
        for (int channel = 0; channel <= 3; channel++) {
            run.event(SPEAKS, 5, channel, 10 + channel, 5).event(SPEAKS, 5, channel, 20 + channel, 6);
        }
        run.dueForEach("hears(#, 5)", 0, 9, 0).event(LISTENS, 0, 2, 0, 6).due("hears(0, 5)", 0).due("hears(0, 6)", 22);
        run.dueForEach("hears(#, 6)", 1, 9, 0).event(LISTENS, 0, -1, 0, 6).due("hears(0, 6)", 0);
        run.end();
    }

    private static void inThisVerySecond() {
        Run run = new Run("in this very second");
        for (int unit = 0; unit <= 3; unit++) {
            run.event(LISTENS, unit, unit, 0, 0);
        }
        run.event(SPEAKS, 5, 1, 7, 0).event(SPEAKS, 5, 1, 8, 50).event(SPEAKS, 5, 1, 9, 99999);
        run.due("hears(1, 0)", 7).due("hears(1, 1)", 0).due("hears(1, 49)", 0).due("hears(1, 50)", 8);
        run.due("hears(1, 51)", 0).due("hears(1, 99998)", 0).due("hears(1, 99999)", 9);
        run.event(SPEAKS, 6, 1, 3, 51).due("hears(1, 50)", 8).due("hears(1, 51)", 3);
        run.end();
    }

    private static void justOneUnit() {
        Run run = new Run("said on its channel by just one unit; 0 when none is, or more are");
        run.event(LISTENS, 0, 1, 0, 0).due("hears(0, 5)", 0).event(SPEAKS, 5, 1, 7, 5).due("hears(0, 5)", 7);
        run.event(SPEAKS, 6, 1, 7, 5).due("hears(0, 5)", 0).event(SPEAKS, 5, 1, 7, 5).due("hears(0, 5)", 0);
        run.event(SPEAKS, 9, 1, 4, 6).event(SPEAKS, 1, 1, 5, 6).event(SPEAKS, 9, 1, 6, 6).due("hears(0, 6)", 0);
        for (int unit = 9; unit >= 1; unit--) {
            run.event(SPEAKS, unit, 1, 50 + unit, 7).due("hears(0, 7)", unit == 9 ? 59 : 0);
        }
        run.end();
    }

    private static void anotherUnit() {
        Run run = new Run("by just one unit, another one");
        run.event(LISTENS, 0, 1, 0, 0).event(LISTENS, 4, 1, 0, 0);
        run.event(SPEAKS, 0, 1, 7, 5).due("hears(0, 5)", 0).due("hears(4, 5)", 7);
        run.event(SPEAKS, 0, 1, 8, 5).due("hears(0, 5)", 0).due("hears(4, 5)", 8);
        run.event(SPEAKS, 6, 1, 9, 5).due("hears(0, 5)", 0).due("hears(4, 5)", 0);
        run.event(SPEAKS, 6, 1, 10, 6).event(SPEAKS, 0, 2, 11, 6).due("hears(0, 6)", 10).due("hears(4, 6)", 10);
        run.end();
    }

    private static void latestOfTwoWords() {
        Run run = new Run("of two words of one unit in one second the latest");
        run.event(LISTENS, 0, 1, 0, 0).event(SPEAKS, 5, 1, 99, 5).event(SPEAKS, 5, 1, 98, 5).due("hears(0, 5)", 98);
        run.event(SPEAKS, 5, 1, 1, 4).due("hears(0, 5)", 98).due("hears(0, 4)", 1);
        run.event(SPEAKS, 5, 1, 97, 5).due("hears(0, 5)", 97).event(SPEAKS, 5, 1, 99, 5).due("hears(0, 5)", 99);
        run.end();
    }

    private static void onItsChannel() {
        Run run = new Run("said on its channel");
        for (int channel = 0; channel <= 3; channel++) {
            run.event(LISTENS, channel, channel, 0, 0).event(SPEAKS, 9 - channel, channel, 11 + channel, 5);
        }
        for (int channel = 0; channel <= 3; channel++) {
            run.due("hears(" + channel + ", 5)", 11 + channel).due("hears(" + channel + ", 6)", 0);
        }
        run.event(LISTENS, 0, 3, 0, 5).due("hears(0, 5)", 14).event(LISTENS, 0, 0, 0, 6).due("hears(0, 5)", 14);
        run.event(SPEAKS, 9, 2, 20, 6).due("hears(0, 6)", 0).due("hears(2, 6)", 20);
        run.end();
    }

    private static void fullChannel() {
        Run run = new Run("a unit hears, all units on one channel");
        for (int unit = 0; unit <= 9; unit++) {
            run.event(LISTENS, unit, 3, 0, 0).event(SPEAKS, unit, 3, 60 + unit, unit);
        }
        for (int speaker = 0; speaker <= 9; speaker++) {
            for (int unit = 0; unit <= 9; unit++) {
                run.due("hears(" + unit + ", " + speaker + ")", unit == speaker ? 0 : 60 + speaker);
            }
        }
        for (int unit = 0; unit <= 9; unit++) {
            run.event(SPEAKS, unit, 3, 5, 20);
        }
        run.dueForEach("hears(#, 20)", 0, 9, 0);
        run.end();
    }

    private static void persons() {
        Run run = new Run("PERSONS 0 .. 19");
        run.unknownBeside("event(7, #, 0, 0, 5)", 0, 19).unknownBeside("sector(#, 5)", 0, 19);
        run.event(PERSON, 0, 3, 0, 5).event(PERSON, 19, 4, 0, 5).due("sector(0, 5)", 3).due("sector(19, 5)", 4);
        run.dueForEach("sector(#, 5)", 1, 18, -1).unknownBeside("sector(#, 5)", 0, 19);
        run.end();
    }

    private static void sectors() {
        Run run = new Run("SECTORS 0 .. 5 (-1: out)");
        run.unknownBeside("event(7, 6, #, 0, 5)", -1, 5);
        for (int sector = -1; sector <= 5; sector++) {
            run.event(PERSON, 6, sector, 0, 10 + sector).due("sector(6, " + (10 + sector) + ")", sector);
        }
        run.event(PERSON, 6, -1, 0, 16).due("sector(6, 15)", 5).due("sector(6, 16)", -1).due("sector(6, 99999)", -1);
        run.end();
    }

    private static void outAtFirst() {
        Run run = new Run("-1: out, as at first");
        run.event(PERSON, 6, 0, 0, 10).dueForEach("sector(#, 9)", 0, 19, -1).due("sector(6, 10)", 0);
        run.dueForEach("missing(#, 0, 0, 9)", 0, 5, -1).due("missing(0, 0, 0, 10)", 6).due("missing(0, 0, 1, 10)", -1);
        run.event(PERSON, 6, -1, 0, 11).due("missing(0, 0, 0, 11)", -1).due("sector(6, 11)", -1);
        run.end();
    }

    private static void noSuchSector() {
        Run run = new Run("no such sector");
        for (int sector = 0; sector <= 5; sector++) {
            run.event(PERSON, 10 + sector, sector, 0, 5).due("missing(" + sector + ", 0, 0, 5)", 10 + sector);
        }
        run.unknownBeside("missing(#, 0, 0, 5)", 0, 5).unknownBeside("missing(#, -1, 99, 5)", 0, 5);
        run.end();
    }

    private static void inTheRow() {
        Run run = new Run("The i-th person (0 first, by numbers); -1 when there are not so many");
        run.due("missing(2, 0, 0, 5)", -1).due("missing(2, 0, 2147483647, 5)", -1);
        for (int person = 19; person >= 0; person--) {
            run.event(PERSON, person, 2, 0, 5).due("missing(2, 0, 0, 5)", person);
            run.due("missing(2, 0, " + (19 - person) + ", 5)", 19).due("missing(2, 0, " + (20 - person) + ", 5)", -1);
        }
        for (int person = 0; person <= 19; person++) {
            run.due("missing(2, 0, " + person + ", 5)", person);
        }
        run.due("missing(2, 0, 20, 5)", -1).due("missing(2, 0, 2147483647, 5)", -1).due("missing(1, 0, 0, 5)", -1);
        run.end();
    }

    private static void belowZero() {
        Run run = new Run("i is below 0");
        run.outside("missing(2, 0, -1, 5)").outside("missing(2, 0, -2147483648, 5)").event(PERSON, 0, 2, 0, 5);
        run.outside("missing(2, 0, -1, 5)").outside("missing(2, -1, -1, 5)").due("missing(2, 0, 0, 5)", 0);
        run.end();
    }

    private static void notAmongThoseSeen() {
        Run run = new Run("not among those seen (bits 0 .. 19)");
        for (int person = 0; person <= 19; person++) {
            run.event(PERSON, person, 2, 0, 5);
        }
        for (int person = 0; person <= 19; person++) {
            int others = ALL_PERSONS & ~(1 << person);
            run.due("missing(2, " + others + ", 0, 5)", person).due("missing(2, " + others + ", 1, 5)", -1);
            run.due("missing(2, " + (1 << person) + ", 18, 5)", person == 19 ? 18 : 19);
            run.due("missing(2, " + (1 << person) + ", 19, 5)", -1);
        }
        run.due("missing(2, " + ALL_PERSONS + ", 0, 5)", -1).due("missing(2, 1, 0, 5)", 1).due("missing(2, 3, 0, 5)", 2);
        run.end();
    }

    private static void bitsOfNoPerson() {
        Run run = new Run("seen, bits above 19");
        run.event(PERSON, 0, 2, 0, 5).event(PERSON, 11, 2, 0, 5).event(PERSON, 19, 2, 0, 5);
        for (int bit = 20; bit <= 31; bit++) {
            run.due("missing(2, " + (1 << bit) + ", 0, 5)", 0).due("missing(2, " + (1 << bit) + ", 2, 5)", 19);
        }
        run.due("missing(2, " + ~ALL_PERSONS + ", 0, 5)", 0).due("missing(2, " + ~ALL_PERSONS + ", 2, 5)", 19);
        run.due("missing(2, -1, 0, 5)", -1).due("missing(2, 2147483647, 0, 5)", -1);
        run.due("missing(2, " + (~ALL_PERSONS | 1) + ", 0, 5)", 11).due("missing(2, -524289, 0, 5)", 19);
        run.end();
    }
}
