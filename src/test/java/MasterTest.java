/** Promises 7, 8, 9 and 13: TRANSFERS, clocks, what becomes of each TRANSFER. */
public final class MasterTest {
    private static final Check check = new Check("MasterTest");
    private static final int NONE = BusBridge.NONE;
    private static final int NOWHERE = 1000;

    public static void main(String[] args) {
        transferRefusals();
        transferFull();
        clocks();
        finishes();
        oneRead();
        oneWrite();
        oneBehindTheOther();
        gaps();
        gapsSinceItIsNext();
        cancelled();
        gapIsNotCancelled();
        readyTurned();
        respTurned();
        resultRefusals();
        check.close();
    }

    private static BusBridge withSlave(int wait) {
        BusBridge x = new BusBridge();
        x.slave(0, 60, wait, false);
        x.register(0, 0, 70);
        x.register(4, 0, 74);
        x.register(8, 0, 78);
        return x;
    }

    private static void results(BusBridge x, int t, int how, int got, int shown, int done) {
        int[] row = {how, got, shown, done};
        for (int what = 0; what < 4; what++) {
            check.well("result(" + t + ", " + what + ")", x, x.result(t, what), row[what]);
        }
    }

    private static void transferRefusals() {
        BusBridge x = new BusBridge();
        int[][] wrong = {
            {-1, 2, 0}, {65536, 2, 0}, {0, 1, 0}, {0, 4, 0}, {0, 0, 0}, {0, 2, -1}, {0, 2, 8}, {0, -2, 0},
            {Integer.MIN_VALUE, 2, 0}, {Integer.MAX_VALUE, 2, 0}, {0, 2, Integer.MAX_VALUE}
        };
        for (int[] w : wrong) {
            check.refused("transfer(" + w[0] + ", true, 0, " + w[1] + ", " + w[2] + ")", x,
                x.transfer(w[0], true, 0, w[1], w[2]), BusBridge.OUTSIDE);
        }
        check.due("told(2)", x.told(2), 0);
        check.well("transfer(65535, true, -1, 3, 7)", x, x.transfer(65535, true, -1, 3, 7), 0);
        check.well("transfer(0, false, 0, 2, 0)", x, x.transfer(0, false, 0, 2, 0), 1);
        x.clock(3);
        check.well("transfer in clock 3", x, x.transfer(1, false, 0, 2, 0), 2);
    }

    private static void transferFull() {
        BusBridge x = withSlave(0);
        for (int t = 0; t < 60; t++) {
            check.well("transfer " + t, x, x.transfer(0, true, t, 2, 0), t);
        }
        check.refused("transfer 60", x, x.transfer(0, true, 0, 2, 0), BusBridge.FULL);
        check.refused("transfer 60, no kind", x, x.transfer(0, true, 0, 1, 0), BusBridge.OUTSIDE);
        // The first write takes 6 clocks; each one behind it 4 (TAKE, SETUP, ACCESS, GOOD).
        check.due("finish(2000)", x.finish(2000), 6 + 59 * 4);
        check.due("value(0)", x.value(0), 59);
        check.due("told(3)", x.told(3), 60);
        check.refused("transfer 60 behind all", x, x.transfer(0, true, 0, 2, 0), BusBridge.FULL);
        x.reset();
        check.well("transfer behind reset()", x, x.transfer(0, true, 0, 2, 0), 0);
    }

    private static void clocks() {
        BusBridge x = new BusBridge();
        check.well("clock(0)", x, x.clock(0), 0);
        check.well("clock(500)", x, x.clock(500), 500);
        check.well("clock(1)", x, x.clock(1), 501);
        check.refused("clock(-1)", x, x.clock(-1), BusBridge.OUTSIDE);
        check.refused("clock(501)", x, x.clock(501), BusBridge.OUTSIDE);
        check.refused("clock(MIN)", x, x.clock(Integer.MIN_VALUE), BusBridge.OUTSIDE);
        check.due("told(7)", x.told(7), 501);
    }

    private static void finishes() {
        BusBridge x = withSlave(1);
        check.refused("finish(-1)", x, x.finish(-1), BusBridge.OUTSIDE);
        check.refused("finish(2001)", x, x.finish(2001), BusBridge.OUTSIDE);
        check.well("finish(2000) at rest", x, x.finish(2000), 0);
        x.transfer(0, false, 0, 2, 0);
        check.well("finish(0)", x, x.finish(0), 0);
        check.well("finish(3)", x, x.finish(3), 3);
        check.well("finish(3)", x, x.finish(3), 3);
        check.well("finish(3) at rest", x, x.finish(3), 0);
        check.due("told(7)", x.told(7), 6);
        x.reset();
        x.depth(1);
        x.transfer(0, true, 5, 2, 0);
        x.clock(3);
        check.due("result(0, 0): DONE as it is POSTED", x.result(0, 0), 3);
        check.due("bridge(0)", x.bridge(0), 0);
        // SETUP in clock 3, ACCESS in 4 and 5: LOWER comes to REST behind clock 5.
        check.well("finish(9) waits for LOWER", x, x.finish(9), 3);
        x.turn(2, 2, 1);
        x.clock(1);
        check.well("finish(9): no TRANSFER is open", x, x.finish(9), 0);
        x.clock(1);
        check.well("finish(9) waits for the STATE", x, x.finish(9), 4);
    }

    private static void oneRead() {
        BusBridge x = withSlave(0);
        x.transfer(8, false, 5, 2, 0);
        results(x, 0, 0, 0, NONE, NONE);
        x.clock(1);
        results(x, 0, 1, 0, 1, NONE);
        check.due("wire(0)", x.wire(0), 8);
        check.due("wire(1)", x.wire(1), 0);
        check.due("wire(2)", x.wire(2), 2);
        x.clock(1);
        results(x, 0, 2, 0, 1, NONE);
        check.due("wire(2)", x.wire(2), 0);
        check.due("wire(0) stays", x.wire(0), 8);
        check.due("wire(3) of a read stays", x.wire(3), 0);
        x.clock(2);
        results(x, 0, 2, 0, 1, NONE);
        check.due("wire(6)", x.wire(6), 78);
        x.clock(1);
        results(x, 0, 3, 78, 1, 4);
    }

    private static void oneWrite() {
        BusBridge x = withSlave(0);
        x.transfer(4, false, 0, 2, 0);
        x.transfer(4, true, -9, 2, 0);
        x.clock(2);
        check.due("wire(1)", x.wire(1), 1);
        check.due("wire(3) in the ADDRESS phase", x.wire(3), 0);
        x.clock(3);
        check.due("wire(3) in the DATA phase", x.wire(3), -9);
        check.due("wire(1) stays", x.wire(1), 1);
        x.finish(100);
        results(x, 1, 3, 74, 2, 8);
        check.due("value(4)", x.value(4), -9);
    }

    private static void oneBehindTheOther() {
        BusBridge x = withSlave(0);
        x.transfer(0, false, 0, 2, 0);
        x.transfer(4, false, 0, 3, 0);
        x.transfer(NOWHERE, false, 0, 2, 0);
        x.clock(2);
        check.due("result(0, 0)", x.result(0, 0), 2);
        check.due("result(1, 0)", x.result(1, 0), 1);
        check.due("result(2, 0)", x.result(2, 0), 0);
        check.due("wire(2)", x.wire(2), 3);
        check.due("finish(100)", x.finish(100), 8);
        results(x, 0, 3, 70, 1, 4);
        results(x, 1, 3, 74, 2, 7);
        results(x, 2, 4, 74, 5, 9);
    }

    private static void gaps() {
        for (int gap = 0; gap < 8; gap++) {
            BusBridge x = withSlave(0);
            x.transfer(0, false, 0, 2, gap);
            check.due("finish(100), GAP " + gap, x.finish(100), 5 + gap);
            check.due("result(0, 2), GAP " + gap, x.result(0, 2), 1 + gap);
        }
        BusBridge x = withSlave(0);
        x.transfer(0, false, 0, 2, 0);
        x.transfer(4, false, 0, 2, 2);
        // Of the clocks behind its forerunner's begin READY is 1 in 1, 4 and 5.
        x.finish(100);
        check.due("result(1, 2)", x.result(1, 2), 6);
        BusBridge y = withSlave(0);
        y.transfer(0, false, 0, 2, 0);
        y.transfer(4, false, 0, 2, 1);
        y.transfer(8, false, 0, 2, 1);
        y.finish(100);
        check.due("result(1, 2)", y.result(1, 2), 5);
        check.due("result(2, 2): a GAP of its own", y.result(2, 2), 9);
    }

    private static void gapsSinceItIsNext() {
        BusBridge x = withSlave(0);
        x.clock(10);
        x.transfer(0, false, 0, 2, 2);
        x.clock(2);
        check.due("wire(2) in clock 12", x.wire(2), 0);
        x.clock(1);
        check.due("wire(2) in clock 13", x.wire(2), 2);
        check.due("result(0, 2)", x.result(0, 2), 13);
    }

    private static void cancelled() {
        BusBridge x = withSlave(0);
        x.transfer(NOWHERE, true, 1, 2, 0);
        x.transfer(4, false, 0, 3, 0);
        x.transfer(8, false, 0, 3, 5);
        x.transfer(0, false, 0, 2, 0);
        x.transfer(4, false, 0, 3, 0);
        x.clock(2);
        check.due("wire(4)", x.wire(4), 0);
        check.due("wire(5)", x.wire(5), 1);
        check.due("wire(2)", x.wire(2), 3);
        x.clock(1);
        check.due("wire(2)", x.wire(2), 0);
        check.due("wire(0) stays", x.wire(0), 4);
        check.due("told(4)", x.told(4), 2);
        results(x, 0, 2, 0, 1, NONE);
        check.due("finish(100)", x.finish(100), 8);
        results(x, 0, 4, 0, 1, 3);
        results(x, 1, 5, 0, 2, NONE);
        results(x, 2, 5, 0, NONE, NONE);
        results(x, 3, 3, 70, 4, 7);
        results(x, 4, 3, 74, 5, 10);
        check.due("told(3)", x.told(3), 3);
        check.due("told(4)", x.told(4), 2);
        BusBridge y = withSlave(0);
        y.transfer(NOWHERE, false, 0, 2, 0);
        y.transfer(4, false, 0, 2, 0);
        y.transfer(8, false, 0, 2, 1);
        y.finish(100);
        check.due("result(1, 0): KIND 2 is CANCELLED in its ADDRESS phase", y.result(1, 0), 5);
        check.due("result(2, 0)", y.result(2, 0), 3);
        check.due("result(2, 2): clock 3 is its GAP", y.result(2, 2), 5);
    }

    private static void gapIsNotCancelled() {
        BusBridge x = withSlave(0);
        x.transfer(NOWHERE, false, 0, 2, 0);
        x.transfer(4, false, 0, 3, 1);
        x.finish(100);
        check.due("told(4): none was in the ADDRESS phase", x.told(4), 0);
        results(x, 1, 3, 74, 4, 7);
    }

    /** READY 0 by hand: the master stays, the bridge goes on, and takes the CASE twice. */
    private static void readyTurned() {
        BusBridge x = withSlave(0);
        x.transfer(0, false, 0, 2, 0);
        x.turn(4, 1, 1);
        x.clock(2);
        check.due("result(0, 0)", x.result(0, 0), 1);
        check.due("bridge(0)", x.bridge(0), 3);
        check.due("finish(100)", x.finish(100), 6);
        check.due("bridge(5)", x.bridge(5), 2);
        results(x, 0, 3, 70, 1, 7);
        BusBridge y = withSlave(3);
        y.transfer(0, false, 0, 2, 0);
        y.clock(2);
        y.turn(4, 1, 1);
        y.clock(2);
        check.due("DONE as READY is not 0, with the RDATA of that clock", y.result(0, 0), 3);
        check.due("result(0, 1)", y.result(0, 1), 0);
        check.due("result(0, 3)", y.result(0, 3), 3);
    }

    private static void respTurned() {
        BusBridge x = withSlave(0);
        x.transfer(0, false, 0, 2, 0);
        x.transfer(4, false, 0, 2, 0);
        x.clock(1);
        x.turn(5, 1, 1);
        x.clock(2);
        check.due("result(1, 0)", x.result(1, 0), 5);
        check.due("finish(100)", x.finish(100), 2);
        check.due("result(0, 0)", x.result(0, 0), 3);
        BusBridge z = withSlave(0);
        z.transfer(0, false, 0, 2, 0);
        z.turn(4, 1, 1);
        z.turn(5, 1, 1);
        z.clock(2);
        check.due("result(0, 0): the first of all is CANCELLED", z.result(0, 0), 5);
        check.due("wire(2)", z.wire(2), 0);
        BusBridge y = withSlave(0);
        y.transfer(0, false, 0, 2, 0);
        y.clock(3);
        y.turn(5, 8, 1);
        y.turn(6, 1, 1);
        y.clock(2);
        results(y, 0, 4, 71, 1, 4);
    }

    private static void resultRefusals() {
        BusBridge x = withSlave(0);
        x.transfer(0, false, 0, 2, 0);
        x.finish(100);
        int[] noTransfers = {-1, 1, 60, Integer.MAX_VALUE, Integer.MIN_VALUE};
        for (int t : noTransfers) {
            check.refused("result(" + t + ", 0)", x, x.result(t, 0), 0, BusBridge.UNKNOWN);
            check.refused("result(" + t + ", 4)", x, x.result(t, 4), 0, BusBridge.UNKNOWN);
        }
        int[] nothing = {-1, 4, 8, Integer.MAX_VALUE, Integer.MIN_VALUE};
        for (int what : nothing) {
            check.refused("result(0, " + what + ")", x, x.result(0, what), 0, BusBridge.OUTSIDE);
        }
    }
}
