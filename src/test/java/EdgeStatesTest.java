/**
 * The ends of again, of states kept and compared, and of what is told (promises 20 to 25): one method for each
 * sentence that names an end, with the document's words above it.
 */
public final class EdgeStatesTest {
    private static final Check check = new Check("EdgeStatesTest");
    private static final int UNKNOWN = BusBridge.UNKNOWN, OUTSIDE = BusBridge.OUTSIDE, STATE = BusBridge.STATE;
    private static final int FULL = BusBridge.FULL, NO = BusBridge.NO, NONE = BusBridge.NONE;
    private static final int MIN = Integer.MIN_VALUE, MAX = Integer.MAX_VALUE;
    private static final int ADDR = 0, WRITE = 1, TRANS = 2, WDATA = 3;
    private static final int SEL = 7, PWRITE = 10, PREADY = 12, PERROR = 13, PRDATA = 14;
    private static final int PLAIN = 0, COUNTER = 4;

    public static void main(String[] args) {
        againOfNothing();
        againMoreThanTwoHundred();
        againFirstAct();
        againLastAct();
        againFirstOfTwo();
        againWritesData();
        againReadsError();
        againCounters();
        againCounterWraps();
        againCounterWritten();
        againTwice();
        againNotOver();
        againTimeoutOfAWrite();
        keepPlaces();
        keepAnew();
        backUnknown();
        backStateByEachChange();
        backStateIsOver();
        backUnknownFirst();
        backRefusedChangesNothing();
        backAnswers();
        backLeavesWhatIsKept();
        backInAnyClock();
        backToClocksInARow();
        differsByEachWire();
        differsByTheFirst();
        differsBeneath();
        differsValueAndClock();
        differsLastRegister();
        toldEnds();
        statusOfEach();
        lastCalls();
        lastCallsWithFindings();
        lastCallsWithStates();
        check.close();
    }

    private static BusBridge withSlave(int wait) {
        BusBridge x = new BusBridge();
        x.slave(0, 28, wait, false);
        x.register(0, PLAIN, 70);
        x.register(4, PLAIN, 74);
        x.register(8, COUNTER, 100);
        return x;
    }

    /** again: "NONE" where THE LOG is empty. */
    private static void againOfNothing() {
        BusBridge x = new BusBridge();
        check.well("again() of a new object", x, x.again(), NONE);
        x.transfer(0, false, 0, 2, 0);
        x.finish(100);
        check.well("again() without ACTS", x, x.again(), NONE);
        BusBridge y = withSlave(0);
        y.transfer(0, false, 0, 2, 0);
        y.clock(3);
        y.turn(PRDATA, 1, 1);
        y.reset();
        check.well("again() behind reset()", y, y.again(), NONE);
    }

    /** again: "FULL: more than 200 began": a read by TRANS by hand begins in each third clock. */
    private static void againMoreThanTwoHundred() {
        BusBridge x = withSlave(0);
        for (int i = 0; i < 6; i++) {
            x.turn(TRANS, 2, 100);
            x.clock(99);
        }
        x.turn(TRANS, 2, 100);
        x.clock(7);
        check.due("bridge(5)", x.bridge(5), 200);
        check.due("log(199, 6)", x.log(199, 6), 1);
        check.well("again() of 200", x, x.again(), NONE);
        x.keep(0);
        x.clock(1);
        check.due("bridge(5)", x.bridge(5), 201);
        check.refused("again() of 201", x, x.again(), FULL);
        check.well("back(0)", x, x.back(0), 601);
        check.well("again() of 200", x, x.again(), NONE);
        x.reset();
        check.well("again() behind reset()", x, x.again(), NONE);
    }

    /** again: "the first ACT whose ERROR, or .. whose DATA is another one": ACT 0 is one, the last of 60 is one. */
    private static void againFirstAct() {
        BusBridge x = withSlave(0);
        x.transfer(0, false, 0, 2, 0);
        x.transfer(0, false, 0, 2, 0);
        x.clock(2);
        x.turn(PRDATA, 1, 1);
        x.finish(100);
        check.due("log(0, 3)", x.log(0, 3), 71);
        check.well("again()", x, x.again(), 0);
    }

    private static void againLastAct() {
        BusBridge x = withSlave(0);
        for (int t = 0; t < 60; t++) {
            x.transfer(0, false, 0, 2, 0);
        }
        // Read t has its ACCESS in clock 3 and 3t.
        x.clock(3 + 3 * 59 - 1);
        x.turn(PRDATA, MIN, 1);
        x.finish(100);
        check.due("log(58, 3)", x.log(58, 3), 70);
        check.due("log(59, 3)", x.log(59, 3), 70 | MIN);
        check.well("again()", x, x.again(), 59);
    }

    private static void againFirstOfTwo() {
        BusBridge x = withSlave(0);
        for (int t = 0; t < 4; t++) {
            x.transfer(0, false, 0, 2, 0);
        }
        x.clock(5);
        x.turn(PRDATA, 1, 6);
        x.finish(100);
        check.due("log(1, 3)", x.log(1, 3), 71);
        check.due("log(2, 3)", x.log(2, 3), 71);
        check.well("again()", x, x.again(), 1);
    }

    /** "of a read that went well, whose DATA": those of a write are not compared, its ERROR is. */
    private static void againWritesData() {
        BusBridge x = withSlave(0);
        x.transfer(0, true, 5, 2, 0);
        x.clock(3);
        x.turn(PRDATA, 99, 1);
        x.finish(100);
        check.due("log(0, 3)", x.log(0, 3), 5);
        check.well("again()", x, x.again(), NONE);
        x.reset();
        x.transfer(12, true, 5, 2, 0);
        x.finish(100);
        check.due("log(0, 6)", x.log(0, 6), 2);
        check.well("again() with the same ERROR", x, x.again(), NONE);
        x.reset();
        x.transfer(12, true, 5, 2, 0);
        x.clock(3);
        x.turn(PERROR, 1, 1);
        x.finish(100);
        check.due("log(0, 6)", x.log(0, 6), 1);
        check.well("again() with the ERROR hidden", x, x.again(), 0);
    }

    private static void againReadsError() {
        BusBridge x = withSlave(0);
        x.transfer(12, false, 0, 2, 0);
        x.clock(2);
        x.turn(PERROR, 1, 1);
        x.finish(100);
        check.due("log(0, 6)", x.log(0, 6), 2);
        check.due("log(0, 3)", x.log(0, 3), 0);
        check.well("again(): a read is no ERROR", x, x.again(), 0);
    }

    /** "with COUNTERS as of the clock ahead of the one in which it was over". */
    private static void againCounters() {
        int[] shifts = {-1, 0, 1};
        for (int shift : shifts) {
            BusBridge x = withSlave(9);
            x.transfer(8, false, 0, 2, 0);
            x.clock(5);
            x.turn(PREADY, 1, 1);
            x.turn(PRDATA, 105 + shift, 1);
            x.finish(100);
            check.due("log(0, 5)", x.log(0, 5), 6);
            check.well("again() by " + shift, x, x.again(), shift == 0 ? NONE : 0);
        }
    }

    private static void againCounterWraps() {
        BusBridge x = new BusBridge();
        x.slave(0, 28, 0, false);
        x.register(0, COUNTER, MAX - 1);
        for (int t = 0; t < 3; t++) {
            x.transfer(0, false, 0, 2, 0);
        }
        x.finish(100);
        check.due("log(0, 3)", x.log(0, 3), MIN);
        check.due("log(1, 3)", x.log(1, 3), MIN + 3);
        check.well("again()", x, x.again(), NONE);
    }

    /** One that was written in a clock is not one more behind it, played again as well. */
    private static void againCounterWritten() {
        BusBridge x = withSlave(0);
        x.transfer(8, true, MAX, 2, 0);
        x.transfer(8, false, 0, 2, 0);
        x.transfer(8, true, -1, 2, 0);
        x.transfer(8, true, 7, 2, 0);
        x.transfer(8, false, 0, 2, 7);
        x.finish(100);
        // Written in clock 3; the read's SETUP is in clock 6.
        check.due("log(1, 3)", x.log(1, 3), MIN + 1);
        check.well("again()", x, x.again(), NONE);
    }

    /** A write of a COUNTER is the last ACT: played once more, THE LOG begins as at first all the same. */
    private static void againTwice() {
        BusBridge x = withSlave(0);
        x.transfer(8, false, 0, 2, 0);
        x.transfer(4, true, 1, 2, 0);
        x.transfer(8, true, 5, 2, 0);
        x.finish(100);
        for (int i = 0; i < 3; i++) {
            check.well("again()", x, x.again(), NONE);
        }
        check.due("value(4)", x.value(4), 1);
        check.due("told(5)", x.told(5), 3);
    }

    /** "each ACT that is over by 1 or 2": one under way and a TIMEOUT are passed over. */
    private static void againNotOver() {
        BusBridge x = withSlave(15);
        x.limit(4);
        x.transfer(0, false, 0, 2, 0);
        x.clock(5);
        check.due("log(0, 6)", x.log(0, 6), 0);
        check.well("again() with one under way", x, x.again(), NONE);
        x.finish(100);
        check.due("log(0, 6)", x.log(0, 6), 3);
        check.well("again() with a TIMEOUT", x, x.again(), NONE);
    }

    /** What a TIMEOUT's write would have written is not played: the SLAVE, not in time, did not do it. */
    private static void againTimeoutOfAWrite() {
        BusBridge x = withSlave(15);
        x.limit(14);
        x.transfer(0, true, 5, 2, 0);
        x.transfer(4, true, 6, 2, 3);
        x.finish(100);
        check.due("log(0, 6)", x.log(0, 6), 3);
        check.well("again() with TIMEOUTS alone", x, x.again(), NONE);
        x.transfer(0, false, 0, 2, 0);
        x.clock(4);
        x.turn(PREADY, 1, 1);
        x.turn(PRDATA, 70, 1);
        x.finish(100);
        check.due("log(2, 3)", x.log(2, 3), 70);
        check.well("again(): 70 as at first", x, x.again(), NONE);
    }

    /** keep: "place k (0 to 2): 1. UNKNOWN." */
    private static void keepPlaces() {
        BusBridge x = withSlave(0);
        int[] unknown = {-1, 3, MIN, MAX};
        for (int k : unknown) {
            check.refused("keep(" + k + ")", x, x.keep(k), UNKNOWN);
        }
        for (int k = 0; k < 3; k++) {
            check.refused("back(" + k + ") of nothing", x, x.back(k), UNKNOWN);
        }
        for (int k = 0; k < 3; k++) {
            x.clock(10);
            check.well("keep(" + k + ")", x, x.keep(k), 1);
        }
        for (int k = 2; k >= 0; k--) {
            check.well("back(" + k + ")", x, x.back(k), 10 * k + 10);
            check.well("value(8)", x, x.value(8), 110 + 10 * k);
        }
    }

    private static void keepAnew() {
        BusBridge x = withSlave(0);
        x.keep(1);
        x.clock(7);
        check.well("keep(1) anew", x, x.keep(1), 1);
        x.reset();
        check.well("back(1)", x, x.back(1), 7);
        check.refused("back(0): the places are apart", x, x.back(0), UNKNOWN);
        check.refused("back(2): the places are apart", x, x.back(2), UNKNOWN);
    }

    /** back, differs: "UNKNOWN: also nothing is". */
    private static void backUnknown() {
        BusBridge x = withSlave(0);
        x.keep(1);
        int[] unknown = {0, 2, -1, 3, MIN, MAX};
        for (int k : unknown) {
            check.refused("back(" + k + ")", x, x.back(k), UNKNOWN);
            check.refused("differs(" + k + ")", x, x.differs(k), UNKNOWN);
        }
        check.well("back(1)", x, x.back(1), 0);
        check.well("differs(1)", x, x.differs(1), NONE);
        x.reset();
        check.refused("back(0) behind reset()", x, x.back(0), UNKNOWN);
    }

    private static void change(BusBridge x, int which) {
        switch (which) {
            case 0:
                check.well("slave(32, 32, 0, false)", x, x.slave(32, 32, 0, false), 1);
                break;
            case 1:
                check.well("register(12, 0, 0)", x, x.register(12, 0, 0), 4);
                break;
            case 2:
                check.well("depth(1)", x, x.depth(1), 0);
                break;
            default:
                check.well("limit(33)", x, x.limit(33), 32);
                break;
        }
    }

    /** back, differs: "STATE: THE MAP, DEPTH or LIMIT were changed since". */
    private static void backStateByEachChange() {
        for (int which = 0; which < 4; which++) {
            BusBridge x = withSlave(0);
            x.keep(0);
            x.clock(5);
            x.keep(1);
            x.reset();
            change(x, which);
            x.keep(2);
            for (int k = 0; k < 2; k++) {
                check.refused("back(" + k + ") behind change " + which, x, x.back(k), STATE);
                check.refused("differs(" + k + ") behind change " + which, x, x.differs(k), STATE);
            }
            check.well("back(2): kept behind it", x, x.back(2), 0);
            check.well("differs(2)", x, x.differs(2), NONE);
            x.clock(3);
            check.refused("back(0) in clock 3", x, x.back(0), STATE);
            check.refused("differs(1) in clock 3", x, x.differs(1), STATE);
        }
    }

    /** A place kept anew is as THE MAP is now; refused calls, reset, TRANSFERS and turns change no map. */
    private static void backStateIsOver() {
        BusBridge x = withSlave(0);
        x.keep(0);
        x.slave(28, 32, 0, false);
        x.slave(1, 4, 0, false);
        x.register(0, PLAIN, 9);
        x.register(12, 8, 9);
        x.depth(5);
        x.limit(3);
        x.transfer(0, false, 0, 2, 0);
        x.turn(0, 1, 1);
        x.clock(2);
        x.depth(1);
        x.limit(4);
        x.slave(32, 32, 0, false);
        x.reset();
        check.well("differs(0)", x, x.differs(0), NONE);
        check.well("back(0)", x, x.back(0), 0);
        x.depth(1);
        check.refused("back(0)", x, x.back(0), STATE);
        x.keep(0);
        check.well("back(0), kept anew", x, x.back(0), 0);
    }

    /** "The first of these that fits" of back and differs: UNKNOWN, STATE. */
    private static void backUnknownFirst() {
        BusBridge x = withSlave(0);
        x.keep(0);
        x.depth(2);
        int[] unknown = {1, 2, -1, 3};
        for (int k : unknown) {
            check.refused("back(" + k + ")", x, x.back(k), UNKNOWN);
            check.refused("differs(" + k + ")", x, x.differs(k), UNKNOWN);
        }
        check.refused("back(0)", x, x.back(0), STATE);
        check.refused("differs(0)", x, x.differs(0), STATE);
    }

    private static void backRefusedChangesNothing() {
        BusBridge x = withSlave(0);
        x.keep(0);
        x.limit(5);
        x.transfer(4, true, 9, 2, 0);
        x.clock(5);
        check.refused("back(0)", x, x.back(0), STATE);
        check.refused("back(1)", x, x.back(1), UNKNOWN);
        check.due("told(7)", x.told(7), 5);
        check.due("told(2)", x.told(2), 1);
        check.due("value(4)", x.value(4), 9);
        x.reset();
        check.due("limit(4)", x.limit(4), 5);
    }

    /** back: "It is as it was kept there: which clock it is". */
    private static void backAnswers() {
        BusBridge x = withSlave(0);
        x.keep(0);
        x.clock(500);
        x.clock(500);
        x.keep(1);
        check.well("back(1)", x, x.back(1), 1000);
        check.well("back(0)", x, x.back(0), 0);
        check.due("told(7)", x.told(7), 0);
        check.well("back(1): onward too", x, x.back(1), 1000);
        check.due("value(8)", x.value(8), 1100);
    }

    private static void backLeavesWhatIsKept() {
        BusBridge x = withSlave(0);
        x.transfer(0, true, 1, 2, 0);
        x.clock(3);
        x.keep(0);
        for (int i = 0; i < 3; i++) {
            x.finish(100);
            check.due("value(0)", x.value(0), 1);
            check.well("back(0)", x, x.back(0), 3);
            check.due("value(0)", x.value(0), 70);
            check.due("bridge(1)", x.bridge(1), 1);
        }
    }

    /**
     * keep: "All that reset() would make anew is kept"; back: "It is as it was kept there": behind it an object goes
     * on as one that was never elsewhere.
     */
    private static void backInAnyClock() {
        for (int clock = 0; clock < 80; clock++) {
            for (int where = 0; where < 3; where++) {
                BusBridge x = busyUntil(clock);
                BusBridge y = busyUntil(clock);
                x.keep(where);
                elsewhere(x, where);
                check.well("back in clock " + clock, x, x.back(where), clock);
                Tale.same(check, "all behind back in clock " + clock, Tale.all(x), Tale.all(y));
                x.turn(3, 1, 1);
                y.turn(3, 1, 1);
                x.clock(1);
                y.clock(1);
                Tale.same(check, "the wires a clock later", Tale.wires(x), Tale.wires(y));
                check.due("finish(300)", x.finish(300), y.finish(300));
                Tale.same(check, "all in the end", Tale.all(x), Tale.all(y));
            }
        }
    }

    private static BusBridge busyUntil(int clock) {
        BusBridge x = Tale.busy();
        x.clock(clock / 2);
        x.turn(9, 1, 20);
        x.clock(clock - clock / 2);
        return x;
    }

    /** Somewhere else, with other ACTS, findings, values and TURNED wires: in a write, in a read, or later. */
    private static void elsewhere(BusBridge x, int where) {
        if (where < 2) {
            x.reset();
        }
        if (where == 0) {
            for (int t = 0; t < 6; t++) {
                x.transfer(36, true, 100 + t, 2, 0);
            }
        } else {
            x.transfer(64, false, 0, 2, 0);
        }
        int[] turned = {3, 5, 6, 9, 13, 14};
        for (int wire : turned) {
            x.turn(wire, 4, 100);
        }
        x.clock(where == 0 ? 8 : where == 1 ? 3 : 59);
        x.turn(6, 9, 100);
    }

    /** READY 0 for 60 clocks as it was kept, 39 or 40 more behind back: the 100th in a row is found. */
    private static void backToClocksInARow() {
        for (int more = 39; more <= 40; more++) {
            BusBridge x = withSlave(0);
            x.turn(4, 1, 100);
            x.clock(61);
            x.keep(0);
            x.reset();
            x.clock(5);
            x.back(0);
            x.clock(more);
            check.due("findings(7) behind 60 and " + more, x.findings(7), more == 40 ? 1 : 0);
        }
    }

    /** A CASE by hand, told in the present clock: what the master drives stays. */
    private static void caseByHand(BusBridge x, int address, int write, int data) {
        x.turn(TRANS, 2, 1);
        x.turn(ADDR, address, 1);
        x.turn(WRITE, write, 1);
        x.clock(1);
        x.turn(WDATA, data, 1);
        x.clock(1);
        x.finish(100);
    }

    /** differs: "The first wire (what its driver has set) that is another one there", each of the fifteen. */
    private static void differsByEachWire() {
        differsUpper();
        differsLower();
        differsAnswers();
    }

    private static BusBridge kept(BusBridge x) {
        x.keep(0);
        check.well("differs(0) at once", x, x.differs(0), NONE);
        return x;
    }

    private static void differsIs(BusBridge x, int due) {
        check.well("differs(0) by wire " + due, x, x.differs(0), due);
    }

    private static void differsUpper() {
        int[][] first = {{8, 0, 0}, {8, 1, 0}, {0, 1, 1}, {0, 0, 2}};
        for (int[] row : first) {
            BusBridge x = kept(withSlave(0));
            x.transfer(row[0], row[1] != 0, 0, 2, 0);
            x.clock(1);
            differsIs(x, row[2]);
        }
        BusBridge w = withSlave(0);
        w.transfer(0, true, 5, 2, 0);
        w.finish(100);
        kept(w).transfer(0, true, 6, 2, 0);
        w.finish(100);
        differsIs(w, 3);
        BusBridge r = withSlave(0);
        r.transfer(0, false, 5, 2, 0);
        r.clock(2);
        kept(r).clock(2);
        differsIs(r, 4);
        BusBridge e = withSlave(0);
        e.transfer(0, true, 5, 2, 0);
        e.clock(3);
        e.turn(PERROR, 1, 1);
        e.clock(1);
        kept(e).clock(1);
        differsIs(e, 5);
        BusBridge d = kept(withSlave(0));
        d.transfer(0, false, 5, 2, 0);
        d.finish(100);
        differsIs(d, 6);
    }

    private static void differsLower() {
        BusBridge p = withSlave(0);
        p.depth(1);
        p.transfer(0, true, 5, 2, 0);
        p.clock(3);
        kept(p).clock(1);
        differsIs(p, 8);
        kept(p).clock(1);
        differsIs(p, 7);
        BusBridge x = kept(withSlave(0));
        caseByHand(x, 12, 0, 0);
        differsIs(x, 9);
        BusBridge y = kept(withSlave(0));
        caseByHand(y, 0, 1, 0);
        differsIs(y, 10);
        kept(y);
        caseByHand(y, 0, 1, 6);
        differsIs(y, 11);
    }

    private static void differsAnswers() {
        BusBridge x = kept(withSlave(0));
        x.turn(SEL, 1, 1);
        x.clock(2);
        differsIs(x, 12);
        x.clock(1);
        differsIs(x, 14);
        BusBridge y = new BusBridge();
        y.slave(0, 28, 0, false);
        y.turn(SEL, 1, 2);
        y.clock(1);
        y.turn(PWRITE, 1, 1);
        y.clock(1);
        kept(y).clock(1);
        differsIs(y, 13);
    }

    /** A wire goes ahead of a REGISTER's value, and this ahead of the clock. */
    private static void differsByTheFirst() {
        BusBridge x = kept(withSlave(0));
        x.transfer(4, true, 5, 2, 0);
        x.finish(100);
        check.well("differs(0): ADDR, and all else", x, x.differs(0), 0);
        BusBridge y = kept(withSlave(0));
        y.clock(1);
        check.well("differs(0): a COUNTER and the clock", y, y.differs(0), 15);
        y.reset();
        check.well("differs(0) behind reset()", y, y.differs(0), NONE);
    }

    /** "(what its driver has set)": what is TURNED is not compared. */
    private static void differsBeneath() {
        BusBridge x = new BusBridge();
        x.keep(0);
        for (int i = 0; i < 15; i++) {
            if (i != 2 && i != 7) {
                x.turn(i, 1 << 20, 1);
            }
        }
        x.clock(1);
        check.due("wire(0)", x.wire(0), 1 << 20);
        check.well("differs(0)", x, x.differs(0), 16);
        x.reset();
        x.turn(0, 5, 3);
        check.well("differs(0): turned from the next clock on", x, x.differs(0), NONE);
    }

    /** "15: a REGISTER's value is; 16: the clock; NONE: none of these". */
    private static void differsValueAndClock() {
        BusBridge x = new BusBridge();
        x.slave(0, 28, 0, false);
        x.register(0, COUNTER, 0);
        kept(x).clock(1);
        check.well("differs(0)", x, x.differs(0), 15);
        BusBridge y = new BusBridge();
        y.slave(0, 28, 0, false);
        kept(y).clock(1);
        check.well("differs(0) without REGISTERS", y, y.differs(0), 16);
        y.transfer(0, false, 0, 3, 7);
        check.well("differs(0): TRANSFERS are not compared", y, y.differs(0), 16);
        y.back(0);
        check.well("differs(0) behind back()", y, y.differs(0), NONE);
        y.transfer(0, false, 0, 3, 7);
        check.well("differs(0): TRANSFERS are not compared", y, y.differs(0), NONE);
    }

    private static void differsLastRegister() {
        BusBridge x = new BusBridge();
        x.slave(0, 400, 0, false);
        for (int r = 0; r < 47; r++) {
            x.register(r * 4, PLAIN, 0);
        }
        x.register(47 * 4, COUNTER, 0);
        kept(x).clock(1);
        check.well("differs(0) by the last of 48", x, x.differs(0), 15);
        BusBridge y = new BusBridge();
        y.slave(0, 400, 0, false);
        y.register(0, COUNTER, 0);
        for (int r = 1; r < 48; r++) {
            y.register(r * 4, PLAIN, 0);
        }
        kept(y).clock(1);
        check.well("differs(0) by the first of 48", y, y.differs(0), 15);
    }

    /** told: 0 to 7; "OUTSIDE". */
    private static void toldEnds() {
        BusBridge x = withSlave(0);
        int[] outside = {-1, 8, MIN, MAX};
        for (int what : outside) {
            check.refused("told(" + what + ")", x, x.told(what), OUTSIDE);
        }
        x.transfer(0, false, 0, 2, 0);
        x.transfer(1000, false, 0, 2, 0);
        x.transfer(0, false, 0, 2, 0);
        x.transfer(0, false, 0, 3, 0);
        x.turn(6, 1, 1);
        x.clock(3);
        int[] midst = {1, 3, 4, 0, 0, 1, 0, 3};
        for (int what = 0; what < 8; what++) {
            check.well("told(" + what + ") in the midst", x, x.told(what), midst[what]);
        }
        x.finish(100);
        // A read DONE in clock 4; the next one, ERROR, in 6; two CANCELLED.
        int[] end = {1, 3, 4, 2, 2, 1, 0, 7};
        for (int what = 0; what < 8; what++) {
            check.well("told(" + what + ") in the end", x, x.told(what), end[what]);
        }
        x.turn(4, 1, 2);
        x.clock(3);
        check.well("told(6)", x, x.told(6), 2);
        check.well("told(7)", x, x.told(7), 10);
    }

    /** status: "What the latest call but status() was refused by; 0: it was not." */
    private static void statusOfEach() {
        BusBridge x = withSlave(0);
        check.due("status() of a call that was not refused", x.status(), 0);
        int[][] rows = {
            {x.keep(3), UNKNOWN}, {x.status(), UNKNOWN}, {x.status(), UNKNOWN}, {x.told(8), OUTSIDE},
            {x.status(), OUTSIDE}, {x.clock(1), 1}, {x.status(), 0}, {x.depth(1), STATE}, {x.status(), STATE},
            {x.reset(), 1}, {x.status(), 0}, {x.slave(0, 0, 0, false), NO}, {x.status(), NO}, {x.wire(4), 1},
            {x.status(), 0}, {x.wire(15), 0}, {x.status(), UNKNOWN}, {x.decode(-1), NONE}, {x.status(), 0},
            {x.result(0, 0), 0}, {x.status(), UNKNOWN}, {x.again(), NONE}, {x.status(), 0}, {x.keep(0), 1},
            {x.status(), 0}, {x.differs(0), NONE}, {x.status(), 0}, {x.value(8), 100}, {x.status(), 0}
        };
        for (int i = 0; i < rows.length; i++) {
            check.due("answer " + i, rows[i][0], rows[i][1]);
        }
        for (int t = 0; t < 60; t++) {
            x.transfer(0, false, 0, 2, 0);
        }
        check.due("transfer 60", x.transfer(0, false, 0, 2, 0), FULL);
        check.due("status()", x.status(), FULL);
        check.due("result(0, 2), which is NONE", x.result(0, 2), NONE);
        check.due("status() of an answer that is NONE", x.status(), 0);
        x.turn(14, -1, 1);
        x.clock(1);
        check.due("wire(14), which is -1", x.wire(14), -1);
        check.due("status() of an answer that is -1", x.status(), 0);
    }

    /** "An object is used for at most 512 calls": the 511th and 512th still answer as due. */
    private static void lastCalls() {
        BusBridge x = new BusBridge();
        x.slave(0, 0, 0, false);
        x.register(0, COUNTER, MAX - 253999);
        for (int i = 0; i < 508; i++) {
            x.clock(500);
        }
        check.due("value(0), call 511", x.value(0), MIN);
        check.due("told(7), call 512", x.told(7), 254000);
    }

    private static void lastCallsWithFindings() {
        BusBridge x = new BusBridge();
        for (int i = 0; i < 254; i++) {
            x.turn(4, 1, 100);
            x.clock(101);
        }
        check.due("findings(0)", x.findings(0), 254 * 101);
        check.due("findings(6)", x.findings(6), 254 * 100);
        check.due("findings(7), call 511", x.findings(7), 254);
        check.due("told(6), call 512", x.told(6), 60);
    }

    private static void lastCallsWithStates() {
        BusBridge x = withSlave(0);
        x.transfer(4, false, 0, 2, 0);
        for (int i = 0; i < 168; i++) {
            x.keep(i % 3);
            x.clock(2);
            x.back(i % 3);
        }
        x.finish(2000);
        check.due("told(7), call 511", x.told(7), 5);
        check.due("result(0, 1), call 512", x.result(0, 1), 74);
    }
}
