/** The document's words for numbers, and beginnings that many tests share. */
abstract class Words {
    static final int STATE = 0;
    static final int PLACE = 1;
    static final int STREET = 2;
    static final int CLOSED = 3;
    static final int CALL = 4;
    static final int SENT = 5;
    static final int ENDED = 6;
    static final int PERSON = 7;
    static final int LISTENS = 8;
    static final int SPEAKS = 9;

    static final int FREE = 0;
    static final int OUT = 1;
    static final int OFF = 2;
    static final int DRILLING = 3;

    static final int HIGH = Integer.MAX_VALUE;
    static final int LOW = Integer.MIN_VALUE;

    /** All units are free at first, and a best sending is tried with five of them at most. */
    static Run onlyFirstUnitsFree(String name, int free) {
        Run run = new Run(name);
        for (int unit = free; unit <= 9; unit++) {
            run.event(STATE, unit, OFF, 0, 0);
        }
        return run;
    }

    /** A row of streets over all eight nodes, 0 to 7, each of the same length. */
    static void chainOfAllNodes(Run run, int metres) {
        for (int node = 0; node < 7; node++) {
            run.event(STREET, node, node + 1, metres, 0);
        }
    }
}
