/**
 * The ends of THE BRIDGE, its SLAVES and THE LOG (Terms 3 and 4; promises 14 and 19): one method for each sentence
 * that names an end, with the document's words above it.
 */
public final class EdgeBridgeTest {
    private static final Check check = new Check("EdgeBridgeTest");
    private static final int UNKNOWN = BusBridge.UNKNOWN, OUTSIDE = BusBridge.OUTSIDE, NONE = BusBridge.NONE;
    private static final int MIN = Integer.MIN_VALUE, MAX = Integer.MAX_VALUE;
    private static final int FREE = 0, POST = 1, TAKE = 2, WAIT = 3, BAD = 4, WORSE = 5, GOOD = 6;
    private static final int ADDR = 0, WRITE = 1, TRANS = 2, WDATA = 3, READY = 4, RESP = 5;
    private static final int SEL = 7, ENABLE = 8, PADDR = 9, PWRITE = 10, PWDATA = 11;
    private static final int PREADY = 12, PERROR = 13, PRDATA = 14;
    private static final int PLAIN = 0, COUNTER = 4, ONCE = 5, AWAY = 6;

    public static void main(String[] args) {
        noSlaves();
        transTwoOrThree();
        writeNotZero();
        caseBehindEachState();
        badLooksAtNothing();
        fewerThanDepth();
        postedBehindTheOthers();
        postedFirst();
        beginsInTheSameClock();
        limits();
        limitAndWait();
        limitAtFirst();
        preadyNotZero();
        perrorNotZero();
        late();
        timeouts();
        readStaysWithErrors();
        whatStays();
        slaveCountsAnew();
        slaveCountsToZero();
        slaveDoesItOncePerAnswer();
        slaveInSetup();
        slaveBits();
        greatestNumber();
        registersOfTheSlaveItself();
        logWhileUnderWay();
        logEnds();
        twoHundredKept();
        logReasons();
        bridgeReasons();
        check.close();
    }

    private static BusBridge withSlave(int wait, boolean broken) {
        BusBridge x = new BusBridge();
        x.slave(0, 28, wait, broken);
        x.register(0, PLAIN, 70);
        x.register(4, AWAY, 74);
        x.register(8, ONCE, 78);
        x.register(12, COUNTER, 100);
        return x;
    }

    private static void logRow(BusBridge x, int i, int... row) {
        for (int what = 0; what < 8; what++) {
            check.well("log(" + i + ", " + what + ")", x, x.log(i, what), row[what]);
        }
    }

    /** "READY is 0 in TAKE, WAIT, BAD, else 1; RESP 1 in BAD, WORSE, else 0." */
    private static void states(String what, BusBridge x, int... states) {
        for (int state : states) {
            String at = " in clock " + x.told(7);
            check.due(what + ": bridge(0)" + at, x.bridge(0), state);
            check.due(what + ": wire(4)" + at, x.wire(READY), state == TAKE || state == WAIT || state == BAD ? 0 : 1);
            check.due(what + ": wire(5)" + at, x.wire(RESP), state == BAD || state == WORSE ? 1 : 0);
            x.clock(1);
        }
    }

    /** "without a SLAVE in whose range it lies: BAD": no SLAVES at all. */
    private static void noSlaves() {
        for (int write = 0; write < 2; write++) {
            BusBridge x = new BusBridge();
            x.depth(4);
            x.transfer(0, write != 0, 5, 2, 0);
            states("without SLAVES", x, FREE, FREE, BAD, WORSE, FREE);
            check.due("bridge(5)", x.bridge(5), 0);
            check.due("bridge(3)", x.bridge(3), 0);
            check.due("result(0, 0)", x.result(0, 0), 4);
            check.due("told(5)", x.told(5), 0);
        }
    }

    /** "with TRANS 2 or 3 ..; with another TRANS: FREE". */
    private static void transTwoOrThree() {
        int[] masks = {0, 1, 2, 3, 4, 5, 6, 7, -1, -2, MIN, MIN | 2, MAX};
        for (int mask : masks) {
            BusBridge x = withSlave(0, false);
            x.turn(TRANS, mask, 1);
            x.clock(2);
            check.due("bridge(0) by TRANS " + mask, x.bridge(0), mask == 2 || mask == 3 ? WAIT : FREE);
            check.due("bridge(5) by TRANS " + mask, x.bridge(5), mask == 2 || mask == 3 ? 1 : 0);
        }
    }

    /** "and a write, if WRITE is not 0". */
    private static void writeNotZero() {
        int[] masks = {0, 1, 2, -1, MIN};
        for (int mask : masks) {
            BusBridge x = withSlave(0, false);
            x.turn(TRANS, 2, 1);
            x.turn(WRITE, mask, 1);
            x.clock(2);
            check.due("bridge(0) by WRITE " + mask, x.bridge(0), mask == 0 ? WAIT : TAKE);
            x.finish(100);
            check.due("log(0, 2): 1 or 0", x.log(0, 2), mask == 0 ? 0 : 1);
            check.due("under(10): 1 or 0", x.under(PWRITE), mask == 0 ? 0 : 1);
        }
    }

    /** "FREE, WORSE, GOOD": each takes the CASE that is on the wires. */
    private static void caseBehindEachState() {
        BusBridge x = withSlave(0, false);
        x.transfer(0, false, 0, 2, 0);
        x.transfer(4, false, 0, 2, 0);
        states("a CASE in GOOD", x, FREE, FREE, WAIT, WAIT, GOOD, WAIT, WAIT, GOOD, FREE);
        BusBridge y = withSlave(0, false);
        y.transfer(32, false, 0, 2, 0);
        y.clock(2);
        y.turn(TRANS, 2, 1);
        y.turn(ADDR, 32, 1);
        states("a CASE in WORSE", y, BAD, WORSE, WAIT, WAIT, GOOD, FREE);
        check.due("log(0, 1)", y.log(0, 1), 0);
    }

    /** "BAD: WORSE", whatever TRANS is; so in TAKE and WAIT. */
    private static void badLooksAtNothing() {
        BusBridge x = withSlave(0, false);
        x.transfer(32, false, 0, 2, 0);
        x.clock(1);
        x.turn(TRANS, 2, 1);
        x.clock(1);
        check.due("wire(2)", x.wire(TRANS), 2);
        states("TRANS in BAD", x, BAD, WORSE, FREE);
        BusBridge y = withSlave(1, false);
        y.transfer(0, true, 5, 2, 0);
        y.clock(1);
        y.turn(TRANS, 2, 4);
        y.turn(ADDR, 32, 4);
        y.clock(1);
        states("TRANS in TAKE and WAIT", y, TAKE, WAIT, WAIT, WAIT, GOOD, FREE);
        check.due("bridge(5)", y.bridge(5), 1);
    }

    /**
     * "POST, if fewer are POSTED than DEPTH, else TAKE": a BROKEN SLAVE holds the first one; it is POSTED still as
     * the second one is decoded.
     */
    private static void fewerThanDepth() {
        int[] takeAt = {2, 3, 5, 6, 7};
        for (int depth = 0; depth <= 4; depth++) {
            BusBridge x = withSlave(0, true);
            x.depth(depth);
            for (int t = 0; t < 8; t++) {
                x.transfer(0, true, t, 2, 0);
            }
            x.clock(2);
            for (int clock = 2; clock < takeAt[depth]; clock++) {
                check.due("bridge(0) of DEPTH " + depth + " in clock " + clock, x.bridge(0), POST);
                x.clock(1);
            }
            check.due("bridge(0) of DEPTH " + depth + " in clock " + takeAt[depth], x.bridge(0), TAKE);
            check.due("bridge(2) of DEPTH " + depth, x.bridge(2), depth < 2 ? 0 : depth);
            x.clock(9);
            check.due("bridge(0) of DEPTH " + depth + " later", x.bridge(0), WAIT);
            check.due("bridge(2) of DEPTH " + depth + " later", x.bridge(2), depth < 2 ? 0 : depth);
        }
    }

    /** "POSTED writes, in order": each has its own ADDRESS and DATA, four of them behind one that is under way. */
    private static void postedBehindTheOthers() {
        BusBridge x = withSlave(9, false);
        x.slave(32, 60, 3, false);
        x.depth(4);
        for (int t = 0; t < 6; t++) {
            x.transfer(t % 2 * 32 + t, true, 10 + t, 2, 0);
        }
        x.clock(7);
        check.due("bridge(2)", x.bridge(2), 4);
        x.finish(200);
        for (int t = 0; t < 6; t++) {
            check.due("log(" + t + ", 0)", x.log(t, 0), t % 2);
            check.due("log(" + t + ", 1)", x.log(t, 1), t % 2 * 32 + t);
            check.due("log(" + t + ", 3)", x.log(t, 3), 10 + t);
            check.due("log(" + t + ", 7)", x.log(t, 7), t < 5 ? 1 : 0);
        }
    }

    /** "the first POSTED write, else the CASE of WAIT, if its ACT was not begun". */
    private static void postedFirst() {
        BusBridge x = withSlave(0, false);
        x.depth(1);
        x.transfer(0, true, 5, 2, 0);
        x.transfer(0, false, 0, 2, 0);
        // The write's SETUP is in clock 3, over in 4; the read, in WAIT from clock 3 on, begins then.
        states("a read behind a POSTED write", x, FREE, FREE, POST, WAIT, WAIT, WAIT, WAIT, GOOD, FREE);
        logRow(x, 0, 0, 0, 1, 5, 3, 4, 1, 1);
        logRow(x, 1, 0, 0, 0, 5, 5, 6, 1, 0);
        check.due("bridge(5)", x.bridge(5), 2);
    }

    /** "(What came to WAIT in this clock can begin in it.)" */
    private static void beginsInTheSameClock() {
        BusBridge x = withSlave(0, false);
        x.transfer(0, false, 0, 2, 0);
        x.finish(100);
        check.due("log(0, 4): decoded in clock 1", x.log(0, 4), 2);
        x.reset();
        x.transfer(0, true, 0, 2, 0);
        x.finish(100);
        check.due("log(0, 4): taken in clock 2", x.log(0, 4), 3);
        // The first write is over in clock 4, in which the one behind it is POSTED.
        x.reset();
        x.depth(1);
        x.transfer(0, true, 0, 2, 0);
        x.transfer(0, true, 0, 2, 1);
        x.finish(100);
        check.due("log(0, 5)", x.log(0, 5), 4);
        check.due("log(1, 4): POSTED in clock 4", x.log(1, 4), 5);
    }

    /** "if this was the clock of ACCESS number LIMIT (4 to 60 ..)": PREADY by hand in this one is not too late. */
    private static void limits() {
        int[] limits = {4, 5, 59, 60};
        for (int limit : limits) {
            BusBridge x = withSlave(0, true);
            x.limit(limit);
            x.transfer(0, false, 0, 2, 0);
            x.clock(1 + limit);
            x.turn(PREADY, 1, 1);
            x.turn(PRDATA, 9, 1);
            x.finish(100);
            logRow(x, 0, 0, 0, 0, 9, 2, 2 + limit, 1, 0);
            check.due("bridge(4) of LIMIT " + limit, x.bridge(4), 0);
            check.due("result(0, 0) of LIMIT " + limit, x.result(0, 0), 3);
            x.reset();
            x.transfer(0, false, 0, 2, 0);
            x.clock(2 + limit);
            check.due("bridge(1) of LIMIT " + limit, x.bridge(1), 2);
            x.turn(PREADY, 1, 1);
            x.finish(100);
            logRow(x, 0, 0, 0, 0, 0, 2, 2 + limit, 3, 0);
            check.due("bridge(4) of LIMIT " + limit, x.bridge(4), 1);
            check.due("result(0, 0) of LIMIT " + limit, x.result(0, 0), 4);
        }
    }

    private static void limitAndWait() {
        for (int wait = 2; wait <= 15; wait++) {
            int[] limits = {wait, wait + 1};
            for (int limit : limits) {
                BusBridge x = withSlave(wait, false);
                if (x.limit(limit) == OUTSIDE) {
                    continue;
                }
                x.transfer(0, false, 0, 2, 0);
                x.finish(100);
                boolean well = limit > wait;
                logRow(x, 0, 0, 0, 0, well ? 70 : 0, 2, 2 + limit, well ? 1 : 3, 0);
            }
        }
    }

    private static void limitAtFirst() {
        BusBridge x = withSlave(0, true);
        x.transfer(0, false, 0, 2, 0);
        x.clock(34);
        check.due("bridge(1) in ACCESS number 32", x.bridge(1), 2);
        x.clock(1);
        check.due("bridge(1) behind it", x.bridge(1), 0);
        logRow(x, 0, 0, 0, 0, 0, 2, 34, 3, 0);
    }

    /** "with PREADY not 0 the ACT is over". */
    private static void preadyNotZero() {
        int[] masks = {1, 2, -1, MIN};
        for (int mask : masks) {
            BusBridge x = withSlave(9, false);
            x.transfer(0, false, 0, 2, 0);
            x.clock(4);
            x.turn(PREADY, mask, 1);
            x.clock(2);
            logRow(x, 0, 0, 0, 0, 0, 2, 5, 1, 0);
            check.due("bridge(0)", x.bridge(0), GOOD);
        }
        BusBridge x = withSlave(0, false);
        x.transfer(0, false, 0, 2, 0);
        x.clock(2);
        x.turn(PREADY, 3, 1);
        x.finish(100);
        logRow(x, 0, 0, 0, 0, 70, 2, 3, 1, 0);
    }

    /** "(an ERROR, if PERROR is not 0; PRDATA)"; THE LOG: "0 with an ERROR". */
    private static void perrorNotZero() {
        int[] masks = {1, 2, -1, MIN};
        for (int mask : masks) {
            BusBridge x = withSlave(0, false);
            x.transfer(0, false, 0, 2, 0);
            x.clock(2);
            x.turn(PERROR, mask, 1);
            x.clock(2);
            check.due("bridge(0) by PERROR " + mask, x.bridge(0), BAD);
            logRow(x, 0, 0, 0, 0, 0, 2, 3, 2, 0);
            x.finish(100);
            check.due("result(0, 0)", x.result(0, 0), 4);
        }
        BusBridge x = withSlave(2, false);
        x.transfer(0, false, 0, 2, 0);
        x.clock(2);
        x.turn(PERROR, 1, 1);
        x.finish(100);
        check.due("log(0, 6): PERROR without PREADY is nothing", x.log(0, 6), 1);
        BusBridge y = withSlave(0, false);
        y.transfer(16, true, 5, 2, 0);
        y.clock(4);
        check.due("wire(12) in ACCESS", y.wire(PREADY), 1);
        check.due("wire(13) in ACCESS", y.wire(PERROR), 1);
        y.clock(1);
        check.due("wire(12) behind it", y.wire(PREADY), 0);
        check.due("wire(13) behind it", y.wire(PERROR), 0);
        y.clock(1);
        check.due("wire(13) with no SLAVE's bit", y.wire(PERROR), 0);
    }

    /** "Of a POSTED write that is over by an ERROR: one LATE more." */
    private static void late() {
        for (int depth = 0; depth < 2; depth++) {
            BusBridge x = withSlave(0, false);
            x.slave(32, 60, 0, true);
            x.limit(4);
            x.depth(depth);
            int[][] rows = {{0, 0}, {16, 1}, {16, 2}, {32, 3}, {1, 4}};
            for (int[] row : rows) {
                x.transfer(row[0], true, 1, 2, 0);
                x.finish(100);
                check.due("bridge(3) of DEPTH " + depth, x.bridge(3), depth == 0 ? 0 : row[1]);
            }
            x.transfer(32, false, 1, 2, 0);
            x.finish(100);
            check.due("bridge(3): a read is never POSTED", x.bridge(3), depth == 0 ? 0 : 4);
            check.due("told(3)", x.told(3), 6);
        }
    }

    /** bridge: "4 TIMEOUTS", of writes, POSTED ones and reads. */
    private static void timeouts() {
        BusBridge x = withSlave(0, true);
        x.limit(4);
        x.depth(1);
        x.transfer(0, true, 1, 2, 0);
        x.finish(100);
        check.due("bridge(4)", x.bridge(4), 1);
        x.transfer(0, false, 1, 2, 0);
        x.finish(100);
        check.due("bridge(4)", x.bridge(4), 2);
        x.transfer(32, false, 1, 2, 0);
        x.finish(100);
        check.due("bridge(4): no ACT, no TIMEOUT", x.bridge(4), 2);
        check.due("bridge(5)", x.bridge(5), 2);
    }

    private static void readStaysWithErrors() {
        BusBridge x = withSlave(0, false);
        x.slave(32, 60, 0, true);
        x.limit(4);
        x.transfer(0, false, 0, 2, 0);
        x.transfer(32, false, 0, 2, 0);
        x.clock(6);
        x.turn(PRDATA, 7, 100);
        x.finish(100);
        check.due("result(1, 0)", x.result(1, 0), 4);
        check.due("result(1, 1): RDATA is as it was", x.result(1, 1), 70);
        check.due("log(1, 3): 0 with a TIMEOUT", x.log(1, 3), 0);
        check.due("log(1, 6)", x.log(1, 6), 3);
    }

    /** "(RDATA is what was read; of a write it stays)"; "(of a read PWDATA stays)"; "PRDATA (0 of a write)". */
    private static void whatStays() {
        BusBridge x = withSlave(0, false);
        x.transfer(0, false, 0, 2, 0);
        x.transfer(0, true, 5, 2, 0);
        x.transfer(4, false, 6, 2, 0);
        x.finish(100);
        check.due("result(1, 1): RDATA behind a write", x.result(1, 1), 70);
        check.due("log(1, 3): DATA of a write", x.log(1, 3), 5);
        check.due("under(11): PWDATA behind a read", x.under(PWDATA), 5);
        check.due("result(2, 1)", x.result(2, 1), 74);
        BusBridge z = withSlave(0, false);
        z.depth(1);
        z.transfer(0, true, 5, 2, 0);
        z.transfer(0, false, 6, 2, 3);
        z.finish(100);
        check.due("log(1, 2)", z.log(1, 2), 0);
        check.due("under(11): PWDATA of a POSTED write behind a read", z.under(PWDATA), 5);
        BusBridge y = withSlave(0, false);
        y.transfer(0, false, 0, 2, 0);
        y.transfer(0, true, 5, 2, 0);
        y.clock(6);
        check.due("under(14) ahead of the write", y.under(PRDATA), 70);
        y.clock(1);
        check.due("under(14) of a write", y.under(PRDATA), 0);
    }

    /** "with ENABLE 0: it counts WAIT": each time. */
    private static void slaveCountsAnew() {
        for (int hidden = 0; hidden <= 3; hidden++) {
            BusBridge x = withSlave(2, false);
            x.transfer(0, false, 0, 2, 0);
            x.clock(2);
            if (hidden > 0) {
                x.turn(ENABLE, 1, hidden);
            }
            x.finish(100);
            check.due("log(0, 5), ENABLE hidden for " + hidden, x.log(0, 5), 5 + hidden);
        }
    }

    /** "with ENABLE not 0 and PREADY 0: one less, if it is above 0": at 0 it stays there, and does it each clock. */
    private static void slaveCountsToZero() {
        BusBridge x = withSlave(0, false);
        x.limit(60);
        x.transfer(12, false, 0, 2, 0);
        x.clock(2);
        x.turn(PREADY, 1, 20);
        x.finish(100);
        // Hidden in clocks 3 to 22, seen in 23; the SLAVE gave the COUNTER as it was in 22.
        check.due("log(0, 5)", x.log(0, 5), 23);
        check.due("log(0, 3)", x.log(0, 3), 122);
    }

    /** A hidden PREADY lets the SLAVE do it once more: a ONCE refuses, an AWAY is empty. */
    private static void slaveDoesItOncePerAnswer() {
        BusBridge x = withSlave(0, false);
        x.transfer(8, true, 5, 2, 0);
        x.clock(3);
        x.turn(PREADY, 1, 1);
        x.finish(100);
        logRow(x, 0, 0, 8, 1, 5, 3, 5, 2, 0);
        check.due("value(8)", x.value(8), 5);
        check.due("result(0, 0)", x.result(0, 0), 4);
        BusBridge y = withSlave(0, false);
        y.transfer(4, false, 0, 2, 0);
        y.clock(4);
        check.due("log(0, 3): AWAY was read once, in clock 2", y.log(0, 3), 74);
        check.due("value(4)", y.value(4), 0);
        y.reset();
        y.transfer(12, true, 5, 2, 0);
        y.clock(3);
        y.turn(PREADY, 1, 1);
        y.clock(2);
        check.due("value(12): written anew in clock 4", y.value(12), 5);
    }

    /** "then, with ENABLE 0 or PREADY 0": in SETUP whatever PREADY is; in ACCESS with PREADY not 0 no more. */
    private static void slaveInSetup() {
        BusBridge x = withSlave(0, false);
        x.transfer(4, false, 0, 2, 0);
        x.clock(1);
        x.turn(PREADY, 1, 1);
        x.clock(1);
        check.due("wire(12) in SETUP", x.wire(PREADY), 1);
        x.clock(1);
        check.due("wire(12) in ACCESS", x.wire(PREADY), 1);
        check.due("wire(14)", x.wire(PRDATA), 74);
        x.clock(1);
        check.due("wire(12) behind it", x.wire(PREADY), 0);
        check.due("log(0, 3)", x.log(0, 3), 74);
    }

    /** "A SLAVE whose bit SEL has"; "With no SLAVE's bit PREADY, PERROR are 0." */
    private static void slaveBits() {
        int[] none = {0, 2, 4, 128, 256, MIN, -2};
        for (int mask : none) {
            BusBridge x = withSlave(0, false);
            x.turn(SEL, mask, 1);
            x.turn(PADDR, 4, 1);
            x.clock(2);
            check.due("wire(12) by SEL " + mask, x.wire(PREADY), 0);
            check.due("value(4) by SEL " + mask, x.value(4), 74);
        }
        int[] some = {1, 3, 129, -1, MIN | 1};
        for (int mask : some) {
            BusBridge x = withSlave(0, false);
            x.turn(SEL, mask, 1);
            x.turn(PADDR, 4, 1);
            x.clock(2);
            check.due("wire(12) by SEL " + mask, x.wire(PREADY), 1);
            check.due("wire(14) by SEL " + mask, x.wire(PRDATA), 74);
            check.due("value(4) by SEL " + mask, x.value(4), 0);
        }
        BusBridge z = withSlave(0, false);
        z.turn(SEL, 1, 1);
        z.turn(PWRITE, 1, 1);
        z.turn(PADDR, 16, 1);
        z.clock(2);
        check.due("wire(13) by hand", z.wire(PERROR), 1);
        z.clock(1);
        check.due("wire(12) with no SLAVE's bit behind it", z.wire(PREADY), 0);
        check.due("wire(13) with no SLAVE's bit behind it", z.wire(PERROR), 0);
        BusBridge x = new BusBridge();
        for (int s = 0; s < 8; s++) {
            x.slave(s * 4, s * 4, 0, false);
            x.register(s * 4, PLAIN, 50 + s);
        }
        for (int s = 0; s < 8; s++) {
            x.transfer(s * 4, false, 0, 2, 1);
            x.clock(3);
            check.due("wire(7) of SLAVE " + s, x.wire(SEL), 1 << s);
            x.finish(100);
            check.due("log(" + s + ", 0)", x.log(s, 0), s);
            check.due("log(" + s + ", 3)", x.log(s, 3), 50 + s);
        }
    }

    /** "(of several each; PREADY, PERROR, PRDATA are those of the greatest number)". */
    private static void greatestNumber() {
        for (int wait = 0; wait < 2; wait++) {
            BusBridge x = withSlave(0, false);
            x.slave(32, 60, wait, false);
            x.register(32, PLAIN, 9);
            x.turn(SEL, 3, 1);
            x.turn(PADDR, 32, 1);
            x.clock(2);
            check.due("wire(12) of SLAVE 1, WAIT " + wait, x.wire(PREADY), wait == 0 ? 1 : 0);
            check.due("wire(14) of SLAVE 1, WAIT " + wait, x.wire(PRDATA), wait == 0 ? 9 : 0);
        }
        BusBridge z = withSlave(0, false);
        z.slave(32, 60, 1, false);
        z.turn(SEL, 3, 1);
        z.clock(2);
        check.due("wire(14) stays, though SLAVE 0 gave 70", z.wire(PRDATA), 0);
        z.turn(SEL, 1, 1);
        z.clock(2);
        check.due("wire(14)", z.wire(PRDATA), 70);
        z.turn(SEL, 3, 1);
        z.turn(PADDR, 4, 1);
        z.clock(2);
        check.due("wire(14) stays", z.wire(PRDATA), 70);
        check.due("value(4)", z.value(4), 0);
        BusBridge x = withSlave(0, false);
        x.slave(32, 60, 0, false);
        x.turn(SEL, 3, 1);
        x.turn(PWRITE, 1, 1);
        x.turn(PWDATA, 6, 1);
        x.clock(2);
        check.due("value(0): SLAVE 0 was written", x.value(0), 6);
        check.due("wire(13): SLAVE 1 tells an ERROR", x.wire(PERROR), 1);
        BusBridge y = withSlave(0, false);
        y.slave(32, 60, 0, true);
        y.turn(SEL, 3, 1);
        y.turn(PWRITE, 1, 1);
        y.turn(PADDR, 16, 1);
        y.clock(2);
        check.due("wire(12): SLAVE 1 is BROKEN", y.wire(PREADY), 0);
        check.due("wire(13): the ERROR is SLAVE 0's", y.wire(PERROR), 0);
    }

    /** "Where a SLAVE has no REGISTER": PADDR by hand in another SLAVE's range. */
    private static void registersOfTheSlaveItself() {
        BusBridge x = withSlave(0, false);
        x.slave(32, 60, 0, false);
        x.register(32, PLAIN, 9);
        x.transfer(32, false, 0, 2, 0);
        x.clock(1);
        x.turn(PADDR, 32, 1);
        x.finish(100);
        check.due("log(0, 3): SLAVE 1 has no REGISTER at 0", x.log(0, 3), 0);
        x.transfer(32, true, 5, 2, 0);
        x.clock(2);
        x.turn(PADDR, 32, 1);
        x.finish(100);
        check.due("log(1, 6)", x.log(1, 6), 2);
        check.due("value(0)", x.value(0), 70);
    }

    /** log: "5 the clock in which it was over (NONE)"; "0 under way". */
    private static void logWhileUnderWay() {
        BusBridge x = withSlave(3, false);
        x.transfer(0, true, 5, 2, 0);
        x.clock(2);
        check.refused("log(0, 0) ahead of its begin", x, x.log(0, 0), 0, UNKNOWN);
        x.clock(1);
        logRow(x, 0, 0, 0, 1, 5, 3, NONE, 0, 0);
        x.clock(4);
        logRow(x, 0, 0, 0, 1, 5, 3, NONE, 0, 0);
        x.clock(1);
        logRow(x, 0, 0, 0, 1, 5, 3, 7, 1, 0);
        x.reset();
        x.transfer(0, false, 5, 2, 0);
        x.clock(2);
        logRow(x, 0, 0, 0, 0, 0, 2, NONE, 0, 0);
        x.clock(4);
        logRow(x, 0, 0, 0, 0, 0, 2, NONE, 0, 0);
        x.clock(1);
        logRow(x, 0, 0, 0, 0, 70, 2, 6, 1, 0);
    }

    /** Each way in which an ACT ends, of writes and reads. */
    private static void logEnds() {
        BusBridge x = withSlave(0, false);
        x.slave(32, 60, 0, true);
        x.limit(4);
        x.transfer(0, true, 5, 2, 0);
        x.transfer(16, true, 6, 2, 1);
        x.transfer(32, true, 7, 2, 1);
        x.transfer(0, false, 8, 2, 1);
        x.finish(100);
        logRow(x, 0, 0, 0, 1, 5, 3, 4, 1, 0);
        // DONE in clock 5, where the next one begins; the rows below follow each other likewise.
        logRow(x, 1, 0, 16, 1, 6, 8, 9, 2, 0);
        logRow(x, 2, 1, 32, 1, 7, 14, 18, 3, 0);
        logRow(x, 3, 0, 0, 0, 5, 22, 23, 1, 0);
        check.due("told(5)", x.told(5), 4);
    }

    /** "THE LOG has the ACTS in the order in which they began, 200 kept": a read by TRANS by hand each third clock. */
    private static void twoHundredKept() {
        BusBridge x = withSlave(0, false);
        for (int i = 0; i < 6; i++) {
            x.turn(TRANS, 2, 100);
            x.clock(99);
        }
        x.turn(TRANS, 2, 100);
        x.clock(2);
        check.due("bridge(5)", x.bridge(5), 199);
        check.due("told(5)", x.told(5), 199);
        check.refused("log(199, 0)", x, x.log(199, 0), 0, UNKNOWN);
        x.clock(3);
        check.due("bridge(5)", x.bridge(5), 200);
        check.due("told(5)", x.told(5), 200);
        check.well("log(199, 4)", x, x.log(199, 4), 599);
        x.clock(3);
        check.due("bridge(5)", x.bridge(5), 201);
        check.due("told(5)", x.told(5), 200);
        check.refused("log(200, 0)", x, x.log(200, 0), 0, UNKNOWN);
        check.well("log(0, 4): the first ones are kept", x, x.log(0, 4), 2);
        check.well("log(199, 4)", x, x.log(199, 4), 599);
        x.clock(30);
        check.due("bridge(5)", x.bridge(5), 211);
        logRow(x, 199, 0, 0, 0, 70, 599, 600, 1, 0);
        x.reset();
        check.due("told(5) behind reset()", x.told(5), 0);
        check.refused("log(0, 0) behind reset()", x, x.log(0, 0), 0, UNKNOWN);
    }

    /** log: "UNKNOWN, OUTSIDE: 0, as status() tells", the first that fits. */
    private static void logReasons() {
        BusBridge x = withSlave(0, false);
        check.refused("log(0, 0) of nothing", x, x.log(0, 0), 0, UNKNOWN);
        x.transfer(0, false, 0, 2, 0);
        x.transfer(4, false, 0, 2, 0);
        x.finish(100);
        int[] unknown = {-1, 2, 199, 200, MIN, MAX};
        for (int i : unknown) {
            check.refused("log(" + i + ", 0)", x, x.log(i, 0), 0, UNKNOWN);
            check.refused("log(" + i + ", 8)", x, x.log(i, 8), 0, UNKNOWN);
            check.refused("log(" + i + ", -1)", x, x.log(i, -1), 0, UNKNOWN);
        }
        int[] outside = {-1, 8, MIN, MAX};
        for (int what : outside) {
            check.refused("log(0, " + what + ")", x, x.log(0, what), 0, OUTSIDE);
            check.refused("log(1, " + what + ")", x, x.log(1, what), 0, OUTSIDE);
        }
        check.well("log(1, 7)", x, x.log(1, 7), 0);
        check.well("log(1, 0)", x, x.log(1, 0), 0);
    }

    /** bridge: 0 to 5, "OUTSIDE". */
    private static void bridgeReasons() {
        BusBridge x = withSlave(0, false);
        int[] outside = {-1, 6, MIN, MAX};
        for (int what : outside) {
            check.refused("bridge(" + what + ")", x, x.bridge(what), OUTSIDE);
        }
        for (int what = 0; what <= 5; what++) {
            check.well("bridge(" + what + ")", x, x.bridge(what), 0);
        }
        x.turn(WDATA, 1, 1);
        x.transfer(0, false, 0, 2, 0);
        x.clock(2);
        int[] row = {WAIT, 1, 0, 0, 0, 1};
        for (int what = 0; what <= 5; what++) {
            check.well("bridge(" + what + ") in clock 2", x, x.bridge(what), row[what]);
        }
    }
}
