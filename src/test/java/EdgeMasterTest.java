/**
 * The ends of WIRES and THE MASTER (Terms 2; promises 7 to 13): one method for each sentence that names an end, with
 * the document's words above it. With WAIT 0 and DEPTH 0 a read told in clock 0 has its ADDRESS on the wires in
 * clock 1, SETUP in 2, ACCESS in 3, and is DONE in 4.
 */
public final class EdgeMasterTest {
    private static final Check check = new Check("EdgeMasterTest");
    private static final int UNKNOWN = BusBridge.UNKNOWN, OUTSIDE = BusBridge.OUTSIDE, FULL = BusBridge.FULL;
    private static final int NONE = BusBridge.NONE;
    private static final int MIN = Integer.MIN_VALUE, MAX = Integer.MAX_VALUE;
    private static final int NOWHERE = 1000;
    private static final int TO_COME = 0, IN_ADDRESS = 1, IN_DATA = 2, DONE = 3, ERROR = 4, CANCELLED = 5;
    private static final int WDATA = 3, READY = 4, RESP = 5, RDATA = 6;

    public static void main(String[] args) {
        transferAddresses();
        transferKinds();
        transferGaps();
        transferData();
        sixtyTransfers();
        transferReasons();
        transferInAnyClock();
        clocks();
        finishBounds();
        finishEnds();
        finishStopsAtMost();
        finishWaitsForTransfers();
        finishWaitsForLower();
        finishWaitsForTheState();
        finishCountsCancelled();
        wiresAtFirst();
        wireNumbers();
        turnClocks();
        turnMasks();
        turnInstead();
        turnedNoMoreInThisClock();
        turnedIsSeenByAll();
        turnReasons();
        noneAtFirst();
        readyNotZero();
        respNotZero();
        allStays();
        gapsGoBy();
        gapSinceItIsTheNext();
        gapBehindCancelled();
        cancelledToTheEnd();
        cancelledUpToKindTwo();
        toldLaterIsNotCancelled();
        noneInAddressPhase();
        cancelledOnceOnly();
        resultOfEach();
        resultReasons();
        check.close();
    }

    private static BusBridge withSlave(int wait) {
        BusBridge x = new BusBridge();
        x.slave(0, 60, wait, false);
        x.register(0, 0, 70);
        x.register(4, 0, 74);
        x.register(8, 0, 78);
        return x;
    }

    private static void transferIs(BusBridge x, int address, int kind, int gap, int due) {
        String call = "transfer(" + address + ", false, 0, " + kind + ", " + gap + ")";
        check.refused(call, x, x.transfer(address, false, 0, kind, gap), due, Math.min(due, 0));
    }

    private static void result(BusBridge x, int t, int how, int got, int shown, int done) {
        int[] row = {how, got, shown, done};
        for (int what = 0; what < 4; what++) {
            check.well("result(" + t + ", " + what + ")", x, x.result(t, what), row[what]);
        }
    }

    private static void wire(BusBridge x, int i, int seen, int beneath) {
        check.well("wire(" + i + ") in clock " + x.told(7), x, x.wire(i), seen);
        check.well("under(" + i + ") in clock " + x.told(7), x, x.under(i), beneath);
    }

    /** "OUTSIDE: the ADDRESS": 0 to 65535. */
    private static void transferAddresses() {
        BusBridge x = new BusBridge();
        int[] wrong = {-1, 65536, -4, MIN, MAX};
        for (int address : wrong) {
            transferIs(x, address, 2, 0, OUTSIDE);
        }
        int[] right = {0, 65535, 1, 65532};
        for (int t = 0; t < right.length; t++) {
            transferIs(x, right[t], 2, 0, t);
        }
        check.due("told(2)", x.told(2), 4);
        x.clock(1);
        x.clock(1);
        check.due("wire(0)", x.wire(0), 65535);
    }

    /** "a KIND (2 or 3)". */
    private static void transferKinds() {
        BusBridge x = new BusBridge();
        int[] wrong = {1, 4, 0, -2, -3, 6, 7, MIN, MAX};
        for (int kind : wrong) {
            transferIs(x, 0, kind, 0, OUTSIDE);
        }
        transferIs(x, 0, 2, 0, 0);
        transferIs(x, 0, 3, 0, 1);
        x.clock(1);
        check.due("wire(2) in clock 1", x.wire(2), 2);
        x.clock(1);
        check.due("wire(2) in clock 2", x.wire(2), 3);
    }

    /** "a GAP (0 to 7)". */
    private static void transferGaps() {
        BusBridge x = new BusBridge();
        int[] wrong = {-1, 8, MIN, MAX};
        for (int gap : wrong) {
            transferIs(x, 0, 2, gap, OUTSIDE);
        }
        transferIs(x, 0, 2, 7, 0);
        transferIs(x, 0, 2, 0, 1);
        x.clock(7);
        check.due("wire(2) in clock 7", x.wire(2), 0);
        x.clock(1);
        check.due("wire(2) in clock 8", x.wire(2), 2);
        x.clock(1);
        check.due("wire(2) in clock 9: the next one's", x.wire(2), 2);
        check.due("result(1, 2)", x.result(1, 2), 9);
    }

    private static void transferData() {
        int[] data = {0, -1, MIN, MAX};
        for (int value : data) {
            BusBridge x = withSlave(0);
            check.well("transfer(0, true, " + value + ", 2, 0)", x, x.transfer(0, true, value, 2, 0), 0);
            x.clock(2);
            check.due("wire(3)", x.wire(3), value);
            x.finish(100);
            check.due("value(0)", x.value(0), value);
        }
    }

    /** "TRANSFERS, 60 at most"; "A TRANSFER: its number"; "FULL: 60". */
    private static void sixtyTransfers() {
        BusBridge x = new BusBridge();
        for (int t = 0; t < 60; t++) {
            transferIs(x, 0, 2 + t % 2, t % 8, t);
        }
        transferIs(x, 0, 2, 0, FULL);
        check.due("told(2)", x.told(2), 60);
        check.well("result(59, 0)", x, x.result(59, 0), TO_COME);
        check.refused("result(60, 0)", x, x.result(60, 0), 0, UNKNOWN);
        x.finish(2000);
        check.due("told(3) and told(4)", x.told(3) + x.told(4), 60);
        transferIs(x, 0, 2, 0, FULL);
        x.reset();
        transferIs(x, 0, 2, 0, 0);
    }

    /** "The first of these that fits" of transfer: OUTSIDE, FULL. */
    private static void transferReasons() {
        BusBridge x = new BusBridge();
        for (int t = 0; t < 60; t++) {
            x.transfer(0, false, 0, 2, 0);
        }
        transferIs(x, -1, 2, 0, OUTSIDE);
        transferIs(x, 65536, 2, 0, OUTSIDE);
        transferIs(x, 0, 1, 0, OUTSIDE);
        transferIs(x, 0, 4, 0, OUTSIDE);
        transferIs(x, 0, 2, -1, OUTSIDE);
        transferIs(x, 0, 2, 8, OUTSIDE);
        transferIs(x, 65535, 3, 7, FULL);
    }

    /** No STATE is told of transfer and turn: they are taken in any clock. */
    private static void transferInAnyClock() {
        BusBridge x = withSlave(0);
        x.clock(500);
        transferIs(x, 8, 2, 0, 0);
        check.well("turn(6, 1, 1)", x, x.turn(RDATA, 1, 1), 1);
        check.due("finish(100)", x.finish(100), 5);
        result(x, 0, DONE, 78, 501, 504);
    }

    /** "n clocks (0 to 500) go by: which clock it is. OUTSIDE." */
    private static void clocks() {
        BusBridge x = new BusBridge();
        check.well("clock(0)", x, x.clock(0), 0);
        check.well("clock(1)", x, x.clock(1), 1);
        check.well("clock(500)", x, x.clock(500), 501);
        check.well("clock(499)", x, x.clock(499), 1000);
        int[] wrong = {-1, 501, MIN, MAX};
        for (int n : wrong) {
            check.refused("clock(" + n + ")", x, x.clock(n), OUTSIDE);
        }
        check.well("clock(0)", x, x.clock(0), 1000);
    }

    /** finish: "at most n (0 to 2000) .. OUTSIDE". */
    private static void finishBounds() {
        BusBridge x = withSlave(0);
        x.transfer(0, false, 0, 2, 0);
        int[] wrong = {-1, 2001, MIN, MAX};
        for (int n : wrong) {
            check.refused("finish(" + n + ")", x, x.finish(n), OUTSIDE);
        }
        check.due("told(7)", x.told(7), 0);
        check.well("finish(0)", x, x.finish(0), 0);
        check.due("told(7)", x.told(7), 0);
        check.well("finish(2000)", x, x.finish(2000), 5);
    }

    /** "Clocks go by until ..": exactly so many as it takes, none when all is so. */
    private static void finishEnds() {
        BusBridge x = withSlave(0);
        check.well("finish(2000) of nothing", x, x.finish(2000), 0);
        x.transfer(0, false, 0, 2, 0);
        check.well("finish(4)", x, x.finish(4), 4);
        check.well("finish(1)", x, x.finish(1), 1);
        check.well("finish(1)", x, x.finish(1), 0);
        x.reset();
        x.transfer(0, false, 0, 2, 0);
        check.well("finish(5)", x, x.finish(5), 5);
        check.well("finish(5)", x, x.finish(5), 0);
        x.reset();
        x.transfer(0, false, 0, 2, 0);
        check.well("finish(6)", x, x.finish(6), 5);
        check.due("told(7)", x.told(7), 5);
    }

    /**
     * "At most n": sixty reads of a BROKEN SLAVE, LIMIT 60, GAP 1 lest one be in the ADDRESS phase as the one ahead
     * fails: ADDRESS, SETUP, 60 of ACCESS, BAD, WORSE, 64 clocks each, behind two clocks.
     */
    private static void finishStopsAtMost() {
        BusBridge x = new BusBridge();
        x.slave(0, 0, 0, true);
        x.limit(60);
        for (int t = 0; t < 60; t++) {
            x.transfer(0, false, 0, 2, 1);
        }
        check.well("finish(2000)", x, x.finish(2000), 2000);
        check.due("told(7)", x.told(7), 2000);
        check.well("finish(2000)", x, x.finish(2000), 2 + 60 * 64 - 2000);
        check.due("told(3)", x.told(3), 60);
        check.due("bridge(4)", x.bridge(4), 60);
    }

    private static void finishWaitsForTransfers() {
        BusBridge x = new BusBridge();
        x.transfer(0, false, 0, 2, 7);
        x.clock(3);
        check.due("bridge(0)", x.bridge(0), 0);
        // ADDRESS in clock 8, BAD in 9, WORSE in 10.
        check.well("finish(100)", x, x.finish(100), 11 - 3);
        check.due("result(0, 0)", x.result(0, 0), ERROR);
    }

    /** "Nothing is POSTED, LOWER is at REST": DONE in clock 2, SETUP in 3, ACCESS in 4. */
    private static void finishWaitsForLower() {
        BusBridge x = withSlave(0);
        x.depth(4);
        x.transfer(0, true, 5, 2, 0);
        x.clock(3);
        check.due("result(0, 0)", x.result(0, 0), DONE);
        check.due("bridge(0)", x.bridge(0), 0);
        check.due("bridge(1)", x.bridge(1), 1);
        check.well("finish(100)", x, x.finish(100), 2);
        check.due("bridge(1)", x.bridge(1), 0);
        x.reset();
        for (int t = 0; t < 4; t++) {
            x.transfer(0, true, t, 2, 0);
        }
        x.clock(6);
        check.due("told(3)", x.told(3), 4);
        check.due("bridge(2)", x.bridge(2), 2);
        // The first begins in clock 3, the next ones each two clocks later: the last is over in 10.
        check.well("finish(100)", x, x.finish(100), 11 - 6);
        check.due("value(0)", x.value(0), 3);
    }

    /** "The STATE is FREE": a CASE by hand that lies in no range: BAD in clock 2, WORSE in 3. */
    private static void finishWaitsForTheState() {
        BusBridge x = new BusBridge();
        x.turn(2, 2, 1);
        x.clock(2);
        check.due("bridge(0)", x.bridge(0), 4);
        check.well("finish(100)", x, x.finish(100), 2);
        x.reset();
        x.turn(2, 2, 1);
        x.clock(3);
        check.due("bridge(0)", x.bridge(0), 5);
        check.well("finish(100)", x, x.finish(100), 1);
        BusBridge y = withSlave(0);
        y.depth(1);
        y.turn(2, 2, 1);
        y.turn(1, 1, 1);
        y.clock(2);
        check.due("bridge(0)", y.bridge(0), 1);
        check.due("bridge(1)", y.bridge(1), 0);
        check.well("finish(100) in POST", y, y.finish(100), 3);
    }

    /** "All TRANSFERS are DONE or CANCELLED". */
    private static void finishCountsCancelled() {
        BusBridge x = withSlave(0);
        x.transfer(NOWHERE, false, 0, 2, 0);
        x.transfer(0, false, 0, 2, 0);
        x.transfer(0, false, 0, 3, 7);
        check.well("finish(100)", x, x.finish(100), 4);
        check.due("told(3)", x.told(3), 1);
        check.due("told(4)", x.told(4), 2);
    }

    /** "At first READY is 1, all others 0." */
    private static void wiresAtFirst() {
        BusBridge x = new BusBridge();
        for (int i = 0; i < 15; i++) {
            wire(x, i, i == READY ? 1 : 0, i == READY ? 1 : 0);
        }
        x.clock(9);
        for (int i = 0; i < 15; i++) {
            wire(x, i, i == READY ? 1 : 0, i == READY ? 1 : 0);
        }
    }

    /** "(A wire that there is not: 0, as status() tells: UNKNOWN.)" */
    private static void wireNumbers() {
        BusBridge x = new BusBridge();
        x.turn(0, -1, 2);
        x.turn(14, -1, 2);
        x.clock(1);
        int[] wrong = {-1, 15, MIN, MAX};
        for (int i : wrong) {
            check.refused("wire(" + i + ")", x, x.wire(i), 0, UNKNOWN);
            check.refused("under(" + i + ")", x, x.under(i), 0, UNKNOWN);
        }
        wire(x, 0, -1, 0);
        wire(x, 14, -1, 0);
    }

    /** "for so many clocks (1 to 100) from the next one on". */
    private static void turnClocks() {
        int[] right = {1, 2, 99, 100};
        for (int clocks : right) {
            BusBridge x = new BusBridge();
            x.clock(7);
            check.well("turn(6, 8, " + clocks + ")", x, x.turn(RDATA, 8, clocks), 1);
            wire(x, RDATA, 0, 0);
            x.clock(1);
            wire(x, RDATA, 8, 0);
            x.clock(clocks - 1);
            wire(x, RDATA, 8, 0);
            x.clock(1);
            wire(x, RDATA, 0, 0);
        }
        int[] wrong = {0, 101, -1, MIN, MAX};
        for (int clocks : wrong) {
            BusBridge x = new BusBridge();
            check.refused("turn(6, 8, " + clocks + ")", x, x.turn(RDATA, 8, clocks), OUTSIDE);
            x.clock(1);
            wire(x, RDATA, 0, 0);
        }
    }

    /** "has its bits exchanged by a mask": any int, 0 too. */
    private static void turnMasks() {
        int[] masks = {0, 1, -1, MIN, MAX};
        for (int mask : masks) {
            BusBridge x = new BusBridge();
            check.well("turn(4, " + mask + ", 1)", x, x.turn(READY, mask, 1), 1);
            x.clock(1);
            wire(x, READY, 1 ^ mask, 1);
        }
    }

    /** "instead of what was told of it before". */
    private static void turnInstead() {
        BusBridge x = new BusBridge();
        x.turn(RDATA, 5, 3);
        x.turn(RDATA, 1, 1);
        x.turn(WDATA, 7, 3);
        x.clock(1);
        wire(x, RDATA, 1, 0);
        x.clock(1);
        wire(x, RDATA, 0, 0);
        wire(x, WDATA, 7, 0);
        x.turn(RDATA, 5, 2);
        x.turn(RDATA, 5, 2);
        x.clock(1);
        wire(x, RDATA, 5, 0);
        x.turn(RDATA, 2, 100);
        x.clock(100);
        wire(x, RDATA, 2, 0);
        x.turn(RDATA, 0, 1);
        x.clock(1);
        wire(x, RDATA, 0, 0);
    }

    /** "(in this clock it is not TURNED any more, if it was)": neither for what is told nor for what all see. */
    private static void turnedNoMoreInThisClock() {
        BusBridge x = withSlave(0);
        x.transfer(0, false, 0, 2, 0);
        x.turn(READY, 1, 9);
        x.turn(RDATA, 3, 9);
        x.clock(1);
        wire(x, READY, 0, 1);
        check.well("turn(4, 1, 1)", x, x.turn(READY, 1, 1), 1);
        wire(x, READY, 1, 1);
        wire(x, RDATA, 3, 0);
        x.clock(1);
        check.due("result(0, 0): the master saw READY 1", x.result(0, 0), IN_DATA);
        check.due("findings(6): MONITORS saw it too", x.findings(6), 0);
        wire(x, READY, 1, 0);
        x.clock(1);
        check.due("result(0, 0): DONE by READY as it is TURNED anew", x.result(0, 0), DONE);
    }

    /** "what is told of it, and what all see, is turned so; what its driver has set stays beneath". */
    private static void turnedIsSeenByAll() {
        BusBridge x = withSlave(0);
        x.transfer(4, false, 0, 2, 0);
        x.clock(3);
        x.turn(RDATA, -1, 1);
        x.clock(1);
        wire(x, RDATA, ~74, 74);
        x.clock(1);
        wire(x, RDATA, 74, 74);
        result(x, 0, DONE, ~74, 1, 4);
    }

    /** turn: "UNKNOWN: the wire; OUTSIDE", the first that fits. */
    private static void turnReasons() {
        BusBridge x = new BusBridge();
        int[] wrong = {-1, 15, MIN, MAX};
        for (int i : wrong) {
            check.refused("turn(" + i + ", 1, 1)", x, x.turn(i, 1, 1), UNKNOWN);
            check.refused("turn(" + i + ", 1, 0)", x, x.turn(i, 1, 0), UNKNOWN);
            check.refused("turn(" + i + ", 1, 101)", x, x.turn(i, 1, 101), UNKNOWN);
        }
        check.refused("turn(0, 1, 0)", x, x.turn(0, 1, 0), OUTSIDE);
        check.refused("turn(14, 1, 101)", x, x.turn(14, 1, 101), OUTSIDE);
        check.well("turn(0, 1, 1)", x, x.turn(0, 1, 1), 1);
        check.well("turn(14, 1, 100)", x, x.turn(14, 1, 100), 1);
        x.turn(14, 2, 101);
        x.clock(1);
        check.due("wire(14): a refused turn leaves what is TURNED", x.wire(14), 1);
    }

    /** "It has one in its ADDRESS phase, or none, and one in its DATA phase, or none (at first none)." */
    private static void noneAtFirst() {
        BusBridge x = withSlave(0);
        x.transfer(0, true, 5, 2, 0);
        x.clock(1);
        check.due("told(3)", x.told(3), 0);
        check.due("wire(3): no DATA phase yet", x.wire(WDATA), 0);
        check.due("result(0, 0)", x.result(0, 0), IN_ADDRESS);
        x.clock(1);
        check.due("told(3)", x.told(3), 0);
        check.due("wire(3)", x.wire(WDATA), 5);
        x.finish(100);
        x.clock(20);
        check.due("told(3)", x.told(3), 1);
        check.due("wire(3) stays", x.wire(WDATA), 5);
    }

    /** "With READY not 0": 2 and -1 are not 0 as well. */
    private static void readyNotZero() {
        int[] masks = {3, -2, 1 | MIN};
        for (int mask : masks) {
            BusBridge x = withSlave(0);
            x.transfer(0, false, 0, 2, 0);
            x.turn(READY, mask, 1);
            x.clock(1);
            check.due("wire(4)", x.wire(READY), 1 ^ mask);
            x.clock(1);
            check.due("result(0, 0) behind READY " + (1 ^ mask), x.result(0, 0), IN_DATA);
        }
        int[] low = {2, -1, MIN};
        for (int mask : low) {
            BusBridge x = withSlave(9);
            x.transfer(0, false, 0, 2, 0);
            x.clock(2);
            x.turn(READY, mask, 1);
            x.clock(2);
            result(x, 0, DONE, 0, 1, 3);
        }
    }

    /** "with an ERROR, if RESP is not 0"; "With READY 0 and RESP not 0". */
    private static void respNotZero() {
        int[] masks = {1, 2, -1, MIN};
        for (int mask : masks) {
            BusBridge x = withSlave(0);
            x.transfer(0, false, 0, 2, 0);
            x.clock(3);
            x.turn(RESP, mask, 1);
            x.clock(2);
            result(x, 0, ERROR, 70, 1, 4);
            BusBridge y = withSlave(0);
            y.transfer(0, false, 0, 2, 0);
            y.transfer(4, false, 0, 2, 0);
            y.clock(1);
            y.turn(RESP, mask, 1);
            y.clock(2);
            result(y, 1, CANCELLED, 0, 2, NONE);
            check.due("wire(2)", y.wire(2), 0);
            check.due("wire(0) stays", y.wire(0), 4);
        }
    }

    /** "Else all stays": READY 0 and RESP 0. */
    private static void allStays() {
        BusBridge x = withSlave(15);
        x.transfer(0, true, 5, 2, 0);
        x.transfer(4, true, 6, 2, 0);
        x.transfer(8, true, 7, 2, 0);
        x.clock(2);
        for (int i = 0; i < 17; i++) {
            result(x, 0, IN_DATA, 0, 1, NONE);
            result(x, 1, IN_ADDRESS, 0, 2, NONE);
            result(x, 2, TO_COME, 0, NONE, NONE);
            wire(x, 0, 4, 4);
            wire(x, 2, 2, 2);
            wire(x, WDATA, 5, 5);
            x.clock(1);
        }
    }

    /** "but GAP clocks with READY not 0 since it is the next one go by first: .. TRANS is 0 (ADDR, WRITE stay)". */
    private static void gapsGoBy() {
        for (int gap = 0; gap <= 7; gap++) {
            BusBridge x = withSlave(0);
            x.transfer(4, true, 9, 2, 0);
            x.transfer(8, false, 0, 2, gap);
            x.clock(2);
            check.due("wire(2) behind the first", x.wire(2), gap == 0 ? 2 : 0);
            check.due("wire(0)", x.wire(0), gap == 0 ? 8 : 4);
            check.due("wire(1)", x.wire(1), gap == 0 ? 0 : 1);
            x.finish(100);
            // READY is 1 in clock 1, 0 in 2 to 4, 1 from 5 on.
            check.due("result(1, 2) of GAP " + gap, x.result(1, 2), gap == 0 ? 2 : 5 + gap);
        }
        BusBridge x = withSlave(0);
        x.transfer(8, true, 9, 2, 0);
        x.finish(100);
        wire(x, 0, 8, 8);
        wire(x, 1, 1, 1);
        wire(x, 2, 0, 0);
    }

    private static void gapSinceItIsTheNext() {
        // READY is 1 in clock 1, 0 in 2 and 3, 1 from 4 on.
        int[] shown = {5, 5, 6, 6, 6, 7};
        for (int told = 0; told < shown.length; told++) {
            BusBridge x = withSlave(0);
            x.transfer(0, false, 0, 2, 0);
            x.clock(told);
            x.transfer(4, false, 0, 2, 1);
            x.finish(100);
            check.due("result(1, 2), told in clock " + told, x.result(1, 2), shown[told]);
        }
    }

    /** "then the next TRANSFER, which is not CANCELLED, begins": clock 2 is BAD, 3 is WORSE with READY 1. */
    private static void gapBehindCancelled() {
        for (int gap = 0; gap <= 7; gap++) {
            BusBridge x = withSlave(0);
            x.transfer(NOWHERE, false, 0, 2, 0);
            x.transfer(0, false, 0, 2, 0);
            x.transfer(4, false, 0, 3, 5);
            x.transfer(8, false, 0, 2, gap);
            x.finish(100);
            check.due("result(3, 2) of GAP " + gap, x.result(3, 2), 4 + gap);
            check.due("result(3, 1)", x.result(3, 1), 78);
        }
    }

    /** "with it all behind it that have KIND 3": to the last one, where no KIND 2 comes. */
    private static void cancelledToTheEnd() {
        BusBridge x = withSlave(0);
        x.transfer(NOWHERE, false, 0, 2, 0);
        x.transfer(0, false, 0, 2, 0);
        for (int t = 2; t < 60; t++) {
            x.transfer(0, false, 0, 3, 0);
        }
        x.clock(2);
        check.due("told(4) in clock 2", x.told(4), 0);
        x.clock(1);
        check.due("told(4) in clock 3", x.told(4), 59);
        check.due("told(3)", x.told(3), 0);
        check.due("finish(100)", x.finish(100), 1);
        result(x, 0, ERROR, 0, 1, 3);
        result(x, 1, CANCELLED, 0, 2, NONE);
        result(x, 2, CANCELLED, 0, NONE, NONE);
        result(x, 59, CANCELLED, 0, NONE, NONE);
    }

    /** "up to the first that has KIND 2". */
    private static void cancelledUpToKindTwo() {
        int[][] rows = {
            // The KINDS behind the one that fails, and how each is in the end.
            {2, 2, 3, DONE, DONE}, {3, 2, 3, DONE, DONE}, {2, 3, 2, CANCELLED, DONE}, {3, 3, 3, CANCELLED, CANCELLED}
        };
        for (int[] row : rows) {
            BusBridge x = withSlave(0);
            x.transfer(NOWHERE, false, 0, 2, 0);
            x.transfer(0, false, 0, row[0], 0);
            x.transfer(4, false, 0, row[1], 0);
            x.transfer(8, false, 0, row[2], 0);
            x.finish(100);
            check.due("result(0, 0)", x.result(0, 0), ERROR);
            check.due("result(1, 0)", x.result(1, 0), CANCELLED);
            check.due("result(2, 0)", x.result(2, 0), row[3]);
            check.due("result(3, 0)", x.result(3, 0), row[4]);
        }
    }

    private static void toldLaterIsNotCancelled() {
        BusBridge x = withSlave(0);
        x.transfer(NOWHERE, false, 0, 2, 0);
        x.transfer(0, false, 0, 2, 0);
        x.transfer(4, false, 0, 3, 0);
        x.clock(3);
        x.transfer(8, false, 0, 3, 0);
        x.finish(100);
        check.due("told(4)", x.told(4), 2);
        result(x, 3, DONE, 78, 4, 7);
    }

    /** "the one in the ADDRESS phase, if there is one": else none is CANCELLED, KIND 3 or not. */
    private static void noneInAddressPhase() {
        for (int kind = 2; kind <= 3; kind++) {
            BusBridge x = withSlave(0);
            x.transfer(NOWHERE, false, 0, 2, 0);
            x.transfer(4, false, 0, kind, 1);
            x.finish(100);
            check.due("told(4)", x.told(4), 0);
            // Its GAP went by in clock 1, so it begins in clock 3.
            result(x, 1, DONE, 74, 4, 7);
        }
        BusBridge x = withSlave(0);
        x.transfer(NOWHERE, false, 0, 2, 0);
        x.finish(100);
        check.due("told(4) of one alone", x.told(4), 0);
    }

    private static void cancelledOnceOnly() {
        BusBridge y = withSlave(0);
        y.transfer(0, false, 0, 2, 0);
        y.turn(READY, 1, 1);
        y.turn(RESP, 1, 1);
        y.clock(2);
        result(y, 0, CANCELLED, 0, 1, NONE);
        BusBridge x = withSlave(9);
        x.transfer(0, false, 0, 2, 0);
        x.transfer(4, false, 0, 2, 0);
        x.transfer(8, false, 0, 2, 0);
        x.clock(2);
        x.turn(RESP, 1, 5);
        x.clock(6);
        check.due("told(4): one in five clocks of READY 0 and RESP 1", x.told(4), 1);
        check.due("result(0, 0): that of the DATA phase stays", x.result(0, 0), IN_DATA);
        x.finish(100);
        check.due("result(0, 0)", x.result(0, 0), DONE);
        check.due("result(1, 0)", x.result(1, 0), CANCELLED);
        check.due("result(2, 0)", x.result(2, 0), DONE);
    }

    /** result: "0 to come, 1 in the ADDRESS phase, 2 .., 3 DONE, 4 .., 5 CANCELLED"; "NONE of 2, 3: not yet". */
    private static void resultOfEach() {
        BusBridge x = withSlave(0);
        x.transfer(8, false, 0, 2, 1);
        result(x, 0, TO_COME, 0, NONE, NONE);
        x.clock(1);
        result(x, 0, TO_COME, 0, NONE, NONE);
        x.clock(1);
        result(x, 0, IN_ADDRESS, 0, 2, NONE);
        x.clock(1);
        result(x, 0, IN_DATA, 0, 2, NONE);
        x.clock(2);
        result(x, 0, IN_DATA, 0, 2, NONE);
        x.clock(1);
        result(x, 0, DONE, 78, 2, 5);
        x.transfer(NOWHERE, true, 0, 2, 0);
        x.transfer(0, true, 0, 2, 0);
        x.finish(100);
        result(x, 1, ERROR, 78, 7, 9);
        result(x, 2, CANCELLED, 0, 8, NONE);
    }

    /** result: "UNKNOWN, OUTSIDE: 0, as status() tells". */
    private static void resultReasons() {
        BusBridge x = withSlave(0);
        check.refused("result(0, 0) of no TRANSFER", x, x.result(0, 0), 0, UNKNOWN);
        x.transfer(0, false, 0, 2, 0);
        x.transfer(0, false, 0, 2, 0);
        x.finish(100);
        int[] unknown = {-1, 2, 60, MIN, MAX};
        for (int t : unknown) {
            check.refused("result(" + t + ", 0)", x, x.result(t, 0), 0, UNKNOWN);
            check.refused("result(" + t + ", 4)", x, x.result(t, 4), 0, UNKNOWN);
            check.refused("result(" + t + ", -1)", x, x.result(t, -1), 0, UNKNOWN);
        }
        int[] outside = {-1, 4, 5, 8, 9, MIN, MAX};
        for (int what : outside) {
            check.refused("result(1, " + what + ")", x, x.result(1, what), 0, OUTSIDE);
        }
        check.well("result(1, 3)", x, x.result(1, 3), 7);
    }
}
