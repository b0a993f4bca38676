/** Promises 14 and 19: THE BRIDGE clock by clock, POSTED writes, LIMIT, and THE LOG. */
public final class BridgeTest {
    private static final Check check = new Check("BridgeTest");
    private static final int NONE = BusBridge.NONE;
    private static final int FREE = 0, POST = 1, TAKE = 2, WAIT = 3, BAD = 4, WORSE = 5, GOOD = 6;
    private static final int REST = 0, SETUP = 1, ACCESS = 2;

    public static void main(String[] args) {
        readStates();
        writeStates();
        postStates();
        badStates();
        errorStates();
        lowerWires();
        waits();
        postedInOrder();
        postedAsManyAsDepth();
        readBehindPosted();
        late();
        timeout();
        readyInTheLastClock();
        tooLateButDone();
        logged();
        logFull();
        refusals();
        check.close();
    }

    private static BusBridge withSlave(int wait, int depth) {
        BusBridge x = new BusBridge();
        x.slave(0, 28, wait, false);
        x.slave(64, 92, wait, true);
        x.register(0, 0, 70);
        x.register(4, 0, 74);
        x.register(64, 0, 5);
        x.depth(depth);
        return x;
    }

    /** STATE and LOWER clock by clock from the present one on; READY and RESP follow the STATE. */
    private static void states(BusBridge x, int[][] rows) {
        for (int[] row : rows) {
            String at = " in clock " + x.told(7);
            boolean busy = row[0] == TAKE || row[0] == WAIT || row[0] == BAD;
            boolean bad = row[0] == BAD || row[0] == WORSE;
            check.well("bridge(0)" + at, x, x.bridge(0), row[0]);
            check.well("bridge(1)" + at, x, x.bridge(1), row[1]);
            check.due("wire(4)" + at, x.wire(4), busy ? 0 : 1);
            check.due("wire(5)" + at, x.wire(5), bad ? 1 : 0);
            check.due("wire(7)" + at, x.wire(7) != 0 ? 1 : 0, row[1] != REST ? 1 : 0);
            check.due("wire(8)" + at, x.wire(8), row[1] == ACCESS ? 1 : 0);
            x.clock(1);
        }
    }

    private static void logRow(BusBridge x, int i, int... row) {
        for (int what = 0; what < 8; what++) {
            check.well("log(" + i + ", " + what + ")", x, x.log(i, what), row[what]);
        }
    }

    private static void readStates() {
        BusBridge x = withSlave(0, 4);
        x.transfer(0, false, 0, 2, 0);
        states(x, new int[][] {
            {FREE, REST}, {FREE, REST}, {WAIT, SETUP}, {WAIT, ACCESS}, {GOOD, REST}, {FREE, REST}});
    }

    private static void writeStates() {
        BusBridge x = withSlave(1, 0);
        x.transfer(0, true, 5, 2, 0);
        states(x, new int[][] {
            {FREE, REST}, {FREE, REST}, {TAKE, REST}, {WAIT, SETUP}, {WAIT, ACCESS}, {WAIT, ACCESS},
            {GOOD, REST}, {FREE, REST}});
        check.due("wire(6) of a write stays", x.wire(6), 0);
    }

    private static void postStates() {
        BusBridge x = withSlave(0, 1);
        x.transfer(0, true, 5, 2, 0);
        states(x, new int[][] {
            {FREE, REST}, {FREE, REST}, {POST, REST}, {FREE, SETUP}, {FREE, ACCESS}, {FREE, REST}});
        check.due("value(0)", x.value(0), 5);
        check.due("log(0, 7)", x.log(0, 7), 1);
    }

    private static void badStates() {
        BusBridge x = withSlave(0, 1);
        x.transfer(32, true, 5, 2, 0);
        states(x, new int[][] {{FREE, REST}, {FREE, REST}, {BAD, REST}, {WORSE, REST}, {FREE, REST}});
        check.due("bridge(5)", x.bridge(5), 0);
    }

    private static void errorStates() {
        BusBridge x = withSlave(0, 0);
        x.transfer(8, true, 5, 2, 0);
        states(x, new int[][] {
            {FREE, REST}, {FREE, REST}, {TAKE, REST}, {WAIT, SETUP}, {WAIT, ACCESS}, {BAD, REST}, {WORSE, REST},
            {FREE, REST}});
        check.due("bridge(3): it was not POSTED", x.bridge(3), 0);
    }

    private static void lowerWires() {
        BusBridge x = withSlave(0, 0);
        x.slave(32, 32, 0, false);
        x.register(32, 0, 9);
        x.transfer(4, true, -7, 2, 0);
        x.transfer(32, false, 3, 2, 0);
        x.clock(3);
        int[] setup = {1, 0, 4, 1, -7, 0, 0, 0};
        for (int i = 0; i < 8; i++) {
            check.due("wire(" + (7 + i) + ") in SETUP of a write", x.wire(7 + i), setup[i]);
        }
        x.clock(1);
        int[] access = {1, 1, 4, 1, -7, 1, 0, 0};
        for (int i = 0; i < 8; i++) {
            check.due("wire(" + (7 + i) + ") in ACCESS of a write", x.wire(7 + i), access[i]);
        }
        x.clock(1);
        int[] rest = {0, 0, 4, 1, -7, 0, 0, 0};
        for (int i = 0; i < 8; i++) {
            check.due("wire(" + (7 + i) + ") at REST", x.wire(7 + i), rest[i]);
        }
        x.clock(2);
        int[] read = {4, 1, 32, 0, -7, 1, 0, 9};
        for (int i = 0; i < 8; i++) {
            check.due("wire(" + (7 + i) + ") in ACCESS of a read", x.wire(7 + i), read[i]);
        }
        x.clock(1);
        check.due("wire(12) behind it", x.wire(12), 0);
        check.due("wire(14) stays", x.wire(14), 9);
        check.due("wire(6)", x.wire(6), 9);
    }

    private static void waits() {
        for (int wait = 0; wait < 16; wait++) {
            BusBridge x = withSlave(wait, 0);
            x.transfer(0, false, 0, 2, 0);
            check.due("finish(100) of WAIT " + wait, x.finish(100), 5 + wait);
            check.due("log(0, 5) of WAIT " + wait, x.log(0, 5), 3 + wait);
        }
    }

    private static void postedInOrder() {
        BusBridge x = withSlave(0, 4);
        x.transfer(0, true, 1, 2, 0);
        x.transfer(0, true, 2, 2, 0);
        x.transfer(4, true, 3, 2, 0);
        x.transfer(0, true, 4, 2, 0);
        int[] posted = {0, 0, 0, 0, 1, 1, 2, 1, 1, 0};
        for (int clock = 0; clock < posted.length; clock++) {
            check.well("bridge(2) in clock " + clock, x, x.bridge(2), posted[clock]);
            x.clock(1);
        }
        x.finish(100);
        for (int i = 0; i < 4; i++) {
            logRow(x, i, 0, i == 2 ? 4 : 0, 1, i + 1, 3 + 2 * i, 4 + 2 * i, 1, 1);
            check.due("result(" + i + ", 3)", x.result(i, 3), 2 + i);
        }
        check.due("value(0)", x.value(0), 4);
    }

    private static void postedAsManyAsDepth() {
        for (int depth = 0; depth <= 4; depth++) {
            BusBridge x = withSlave(15, depth);
            for (int t = 0; t < 8; t++) {
                x.transfer(0, true, t, 2, 0);
            }
            x.clock(14);
            // With DEPTH 1 the second write is decoded while the first is POSTED, which begins then.
            check.due("bridge(2) of DEPTH " + depth, x.bridge(2), depth == 1 ? 0 : depth);
            check.due("bridge(0) of DEPTH " + depth, x.bridge(0), WAIT);
            x.finish(500);
            check.due("value(0) of DEPTH " + depth, x.value(0), 7);
            int firstTaken = depth < 2 ? depth : depth + 1;
            for (int i = 0; i <= firstTaken; i++) {
                check.due("log(" + i + ", 7) of DEPTH " + depth, x.log(i, 7), i < firstTaken ? 1 : 0);
            }
        }
    }

    private static void readBehindPosted() {
        BusBridge x = withSlave(2, 2);
        x.transfer(0, true, 1, 2, 0);
        x.transfer(4, true, 2, 2, 0);
        x.transfer(4, false, 0, 2, 0);
        x.finish(100);
        check.due("result(2, 1)", x.result(2, 1), 2);
        logRow(x, 0, 0, 0, 1, 1, 3, 6, 1, 1);
        logRow(x, 1, 0, 4, 1, 2, 7, 10, 1, 1);
        logRow(x, 2, 0, 4, 0, 2, 11, 14, 1, 0);
        check.due("result(2, 3)", x.result(2, 3), 15);
    }

    private static void late() {
        BusBridge x = withSlave(0, 2);
        x.limit(4);
        x.transfer(8, true, 1, 2, 0);
        x.transfer(0, true, 2, 2, 0);
        x.finish(100);
        check.well("bridge(3)", x, x.bridge(3), 1);
        check.due("result(0, 0): DONE well all the same", x.result(0, 0), 3);
        x.transfer(64, true, 3, 2, 0);
        x.finish(100);
        check.well("bridge(3) by a TIMEOUT", x, x.bridge(3), 2);
        check.well("bridge(4)", x, x.bridge(4), 1);
        check.due("result(2, 0)", x.result(2, 0), 3);
        x.transfer(64, false, 0, 2, 0);
        x.finish(100);
        check.well("bridge(3): a read is not POSTED", x, x.bridge(3), 2);
        check.well("bridge(4)", x, x.bridge(4), 2);
        check.due("result(3, 0)", x.result(3, 0), 4);
        check.due("bridge(5)", x.bridge(5), 4);
    }

    private static void timeout() {
        for (int limit = 4; limit <= 60; limit += 28) {
            BusBridge x = withSlave(0, 0);
            x.limit(limit);
            x.transfer(64, false, 0, 2, 0);
            x.clock(2 + limit);
            check.due("bridge(1) in ACCESS " + limit, x.bridge(1), ACCESS);
            check.due("log(0, 6)", x.log(0, 6), 0);
            x.clock(1);
            states(x, new int[][] {{BAD, REST}, {WORSE, REST}, {FREE, REST}});
            logRow(x, 0, 1, 64, 0, 0, 2, 2 + limit, 3, 0);
            check.due("bridge(4)", x.bridge(4), 1);
            check.due("result(0, 0)", x.result(0, 0), 4);
        }
        BusBridge x = withSlave(0, 0);
        x.transfer(64, true, 8, 2, 0);
        check.due("finish(100) with LIMIT 32", x.finish(100), 38);
        logRow(x, 0, 1, 64, 1, 8, 3, 35, 3, 0);
        check.due("value(64)", x.value(64), 5);
    }

    private static void readyInTheLastClock() {
        BusBridge x = withSlave(3, 0);
        x.limit(4);
        x.transfer(0, false, 0, 2, 0);
        x.finish(100);
        logRow(x, 0, 0, 0, 0, 70, 2, 6, 1, 0);
        check.due("bridge(4)", x.bridge(4), 0);
    }

    private static void tooLateButDone() {
        BusBridge x = withSlave(4, 0);
        x.limit(4);
        x.transfer(0, true, 1, 2, 0);
        x.finish(100);
        logRow(x, 0, 0, 0, 1, 1, 3, 7, 3, 0);
        check.due("value(0): the SLAVE did it in that clock", x.value(0), 1);
        check.due("result(0, 0)", x.result(0, 0), 4);
    }

    private static void logged() {
        BusBridge x = withSlave(1, 0);
        x.transfer(4, false, 99, 2, 0);
        x.transfer(8, true, 6, 2, 0);
        x.clock(2);
        logRow(x, 0, 0, 4, 0, 0, 2, NONE, 0, 0);
        x.clock(2);
        logRow(x, 0, 0, 4, 0, 0, 2, NONE, 0, 0);
        x.clock(1);
        logRow(x, 0, 0, 4, 0, 74, 2, 4, 1, 0);
        x.finish(100);
        logRow(x, 1, 0, 8, 1, 6, 7, 9, 2, 0);
        check.due("told(5)", x.told(5), 2);
        BusBridge y = withSlave(0, 0);
        y.transfer(4, false, 0, 2, 0);
        y.clock(2);
        y.turn(13, 1, 1);
        y.finish(100);
        logRow(y, 0, 0, 4, 0, 0, 2, 3, 2, 0);
        check.due("result(0, 1): RDATA stays by an ERROR", y.result(0, 1), 0);
    }

    /** TRANS by hand: a read of 0 begins anew each third clock, from clock 1 on. */
    private static void logFull() {
        BusBridge x = withSlave(0, 0);
        for (int i = 0; i < 6; i++) {
            x.turn(2, 2, 100);
            x.clock(99);
        }
        x.turn(2, 2, 100);
        x.clock(5);
        check.due("told(7)", x.told(7), 599);
        check.due("bridge(5)", x.bridge(5), 200);
        check.due("told(5)", x.told(5), 200);
        check.due("again()", x.again(), NONE);
        logRow(x, 199, 0, 0, 0, 0, 599, NONE, 0, 0);
        x.clock(3);
        check.due("bridge(5)", x.bridge(5), 201);
        check.due("told(5)", x.told(5), 200);
        logRow(x, 199, 0, 0, 0, 70, 599, 600, 1, 0);
        check.refused("log(200, 0)", x, x.log(200, 0), 0, BusBridge.UNKNOWN);
        check.refused("again()", x, x.again(), BusBridge.FULL);
        x.clock(8);
        logRow(x, 199, 0, 0, 0, 70, 599, 600, 1, 0);
        check.due("bridge(5)", x.bridge(5), 203);
        check.due("wire(6)", x.wire(6), 70);
    }

    private static void refusals() {
        BusBridge x = withSlave(0, 0);
        x.transfer(0, false, 0, 2, 0);
        x.finish(100);
        int[] noActs = {-1, 1, 199, 200, Integer.MAX_VALUE, Integer.MIN_VALUE};
        for (int i : noActs) {
            check.refused("log(" + i + ", 0)", x, x.log(i, 0), 0, BusBridge.UNKNOWN);
            check.refused("log(" + i + ", 8)", x, x.log(i, 8), 0, BusBridge.UNKNOWN);
        }
        int[] nothing = {-1, 8, Integer.MAX_VALUE, Integer.MIN_VALUE};
        for (int what : nothing) {
            check.refused("log(0, " + what + ")", x, x.log(0, what), 0, BusBridge.OUTSIDE);
            check.refused("bridge(" + what + ")", x, x.bridge(what), BusBridge.OUTSIDE);
        }
        check.refused("bridge(6)", x, x.bridge(6), BusBridge.OUTSIDE);
    }
}
