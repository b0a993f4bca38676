/** Promises 10, 11 and 12: wires that are TURNED, what is seen of them, and what lies beneath. */
public final class TurnTest {
    private static final Check check = new Check("TurnTest");

    public static void main(String[] args) {
        fromTheNextClockOn();
        insteadOfTheLast();
        edges();
        refusals();
        driverStaysBeneath();
        caseByHand();
        dataByHand();
        readyOfSlaveByHand();
        enableByHand();
        twoSlaves();
        greatestIsBroken();
        strangerSelected();
        answersEnd();
        addressBelowByHand();
        check.close();
    }

    private static BusBridge withSlaves(int wait) {
        BusBridge x = new BusBridge();
        x.slave(0, 28, wait, false);
        x.slave(32, 60, wait, false);
        x.register(0, 0, 70);
        x.register(4, 6, 74);
        x.register(32, 0, 102);
        return x;
    }

    private static void wire(BusBridge x, int i, int seen, int beneath) {
        check.well("wire(" + i + ") in clock " + x.told(7), x, x.wire(i), seen);
        check.well("under(" + i + ") in clock " + x.told(7), x, x.under(i), beneath);
    }

    private static void fromTheNextClockOn() {
        for (int i = 0; i < 15; i++) {
            BusBridge x = new BusBridge();
            int first = i == 4 ? 1 : 0;
            check.well("turn(" + i + ", 1024, 2)", x, x.turn(i, 1024, 2), 1);
            wire(x, i, first, first);
            x.clock(1);
            check.due("wire(" + i + ") in clock 1", x.wire(i), first ^ 1024);
            x.clock(1);
            check.due("wire(" + i + ") in clock 2", x.wire(i), x.under(i) ^ 1024);
            x.clock(1);
            check.due("wire(" + i + ") in clock 3", x.wire(i), x.under(i));
        }
    }

    private static void insteadOfTheLast() {
        BusBridge x = new BusBridge();
        x.turn(6, 5, 10);
        x.turn(14, 9, 10);
        x.clock(2);
        wire(x, 6, 5, 0);
        x.turn(6, 3, 1);
        wire(x, 6, 0, 0);
        x.clock(1);
        wire(x, 6, 3, 0);
        wire(x, 14, 9, 0);
        x.clock(1);
        wire(x, 6, 0, 0);
        x.turn(14, 0, 1);
        x.clock(1);
        wire(x, 14, 0, 0);
        x.clock(1);
        wire(x, 14, 0, 0);
    }

    private static void edges() {
        BusBridge x = new BusBridge();
        x.turn(6, Integer.MIN_VALUE, 100);
        x.turn(0, -1, 1);
        x.clock(1);
        wire(x, 0, -1, 0);
        x.clock(99);
        wire(x, 6, Integer.MIN_VALUE, 0);
        wire(x, 0, 0, 0);
        x.clock(1);
        wire(x, 6, 0, 0);
    }

    private static void refusals() {
        BusBridge x = new BusBridge();
        x.turn(6, 5, 10);
        x.clock(1);
        int[] noWires = {-1, 15, 16, Integer.MAX_VALUE, Integer.MIN_VALUE};
        for (int i : noWires) {
            check.refused("turn(" + i + ", 1, 1)", x, x.turn(i, 1, 1), BusBridge.UNKNOWN);
            check.refused("turn(" + i + ", 1, 0)", x, x.turn(i, 1, 0), BusBridge.UNKNOWN);
            check.refused("wire(" + i + ")", x, x.wire(i), 0, BusBridge.UNKNOWN);
            check.refused("under(" + i + ")", x, x.under(i), 0, BusBridge.UNKNOWN);
        }
        int[] noClocks = {0, 101, -1, Integer.MAX_VALUE, Integer.MIN_VALUE};
        for (int clocks : noClocks) {
            check.refused("turn(6, 1, " + clocks + ")", x, x.turn(6, 1, clocks), BusBridge.OUTSIDE);
        }
        wire(x, 6, 5, 0);
    }

    private static void driverStaysBeneath() {
        BusBridge x = withSlaves(0);
        x.transfer(0, false, 0, 2, 0);
        x.clock(3);
        x.turn(6, 1, 1);
        x.clock(1);
        wire(x, 6, 71, 70);
        x.clock(1);
        wire(x, 6, 70, 70);
        check.due("result(0, 1)", x.result(0, 1), 71);
        check.due("log(0, 3)", x.log(0, 3), 70);
    }

    /** The bridge takes what it sees for a CASE, whatever the master has. */
    private static void caseByHand() {
        BusBridge x = withSlaves(0);
        x.turn(2, 2, 1);
        x.turn(0, 32, 1);
        x.clock(1);
        wire(x, 2, 2, 0);
        x.clock(1);
        check.due("bridge(0)", x.bridge(0), 3);
        wire(x, 7, 2, 2);
        wire(x, 9, 32, 32);
        x.clock(3);
        check.due("log(0, 3)", x.log(0, 3), 102);
        check.due("told(3)", x.told(3), 0);
        BusBridge y = withSlaves(0);
        y.transfer(0, false, 0, 2, 0);
        y.turn(0, -1, 1);
        y.clock(2);
        check.due("bridge(0): no SLAVE has ADDRESS -1", y.bridge(0), 4);
        y.reset();
        y.transfer(0, false, 0, 2, 0);
        y.turn(2, 4, 1);
        y.clock(2);
        check.due("bridge(0): TRANS 6 is none", y.bridge(0), 0);
        y.reset();
        y.transfer(0, false, 0, 2, 0);
        y.turn(1, 8, 1);
        y.clock(2);
        check.due("bridge(0): WRITE is not 0", y.bridge(0), 2);
    }

    private static void dataByHand() {
        BusBridge x = withSlaves(0);
        x.transfer(0, true, 5, 2, 0);
        x.clock(1);
        x.turn(3, 2, 1);
        x.finish(100);
        check.due("value(0) by WDATA in TAKE", x.value(0), 7);
        check.due("log(0, 3)", x.log(0, 3), 7);
        x.reset();
        x.depth(1);
        x.transfer(0, true, 5, 2, 0);
        x.clock(1);
        x.turn(3, 2, 1);
        x.finish(100);
        check.due("value(0) by WDATA in POST", x.value(0), 7);
        x.reset();
        x.transfer(0, true, 5, 2, 0);
        x.clock(2);
        x.turn(11, 2, 1);
        x.finish(100);
        check.due("value(0) by PWDATA in SETUP", x.value(0), 7);
        check.due("log(0, 3) is the ACT's own", x.log(0, 3), 5);
    }

    private static void readyOfSlaveByHand() {
        BusBridge x = withSlaves(2);
        x.transfer(4, false, 0, 2, 0);
        x.clock(2);
        x.turn(12, 1, 1);
        x.turn(14, 9, 1);
        x.clock(2);
        check.due("log(0, 5): PREADY by hand", x.log(0, 5), 3);
        check.due("log(0, 3)", x.log(0, 3), 9);
        check.due("value(4): the SLAVE did nothing", x.value(4), 74);
        // PREADY hidden in clock 3: the SLAVE of WAIT 0 does it once more.
        BusBridge y = withSlaves(0);
        y.transfer(4, false, 0, 2, 0);
        y.clock(2);
        y.turn(12, 1, 1);
        y.clock(3);
        check.due("log(0, 5): PREADY hidden", y.log(0, 5), 4);
        check.due("log(0, 3): AWAY was read twice", y.log(0, 3), 0);
    }

    private static void enableByHand() {
        // In SETUP ENABLE seems 1: the SLAVE, which counts nothing yet, does it at once.
        BusBridge x = withSlaves(9);
        x.transfer(0, false, 0, 2, 0);
        x.clock(1);
        x.turn(8, 1, 1);
        x.clock(2);
        check.due("wire(12) in clock 3", x.wire(12), 1);
        x.clock(1);
        check.due("log(0, 5)", x.log(0, 5), 3);
        // In the first ACCESS ENABLE seems 0: the SLAVE counts its WAIT anew.
        BusBridge y = withSlaves(2);
        y.transfer(0, false, 0, 2, 0);
        y.clock(2);
        y.turn(8, 1, 1);
        y.finish(100);
        check.due("log(0, 5)", y.log(0, 5), 6);
        // ENABLE 0 with PREADY 1: it does what it is told again.
        BusBridge z = withSlaves(0);
        z.transfer(4, false, 0, 2, 0);
        z.clock(2);
        z.turn(8, 1, 1);
        z.clock(2);
        check.due("log(0, 3)", z.log(0, 3), 74);
        check.due("wire(12): answered again", z.wire(12), 1);
        check.due("wire(14)", z.wire(14), 0);
    }

    private static void twoSlaves() {
        BusBridge x = withSlaves(0);
        x.transfer(4, false, 0, 2, 0);
        x.clock(1);
        x.turn(7, 2, 1);
        x.clock(1);
        wire(x, 7, 3, 1);
        x.clock(1);
        check.due("wire(12)", x.wire(12), 1);
        check.due("wire(14): SLAVE 1 has no REGISTER at 4", x.wire(14), 0);
        check.due("value(4): SLAVE 0 was read", x.value(4), 0);
        x.reset();
        x.transfer(0, true, 5, 2, 0);
        x.clock(2);
        x.turn(7, 2, 1);
        x.clock(2);
        check.due("value(0): SLAVE 0 was written", x.value(0), 5);
        check.due("wire(13): of SLAVE 1 it is an ERROR", x.wire(13), 1);
    }

    private static void greatestIsBroken() {
        BusBridge x = new BusBridge();
        x.slave(0, 28, 0, false);
        x.slave(32, 60, 0, true);
        x.register(4, 6, 74);
        x.transfer(4, false, 0, 2, 0);
        x.clock(1);
        x.turn(7, 2, 1);
        x.clock(2);
        check.due("wire(12): SLAVE 1 is BROKEN", x.wire(12), 0);
        check.due("wire(14) stays", x.wire(14), 0);
        check.due("value(4)", x.value(4), 0);
        x.clock(1);
        check.due("wire(12): SLAVE 0 does it again", x.wire(12), 1);
        x.finish(100);
        check.due("log(0, 3)", x.log(0, 3), 0);
        check.due("log(0, 5)", x.log(0, 5), 4);
        x.reset();
        x.turn(7, 3, 1);
        x.turn(10, 1, 1);
        x.clock(2);
        check.due("wire(13): the ERROR of SLAVE 0 is not told", x.wire(13), 0);
    }

    private static void strangerSelected() {
        BusBridge x = withSlaves(0);
        x.limit(4);
        x.transfer(0, false, 0, 2, 0);
        x.clock(1);
        x.turn(7, 5, 100);
        x.clock(2);
        wire(x, 7, 4, 1);
        check.due("wire(12): no SLAVE's bit", x.wire(12), 0);
        x.clock(4);
        check.due("bridge(4)", x.bridge(4), 1);
    }

    /** PREADY, PERROR and PRDATA clock by clock with SEL taken away and given by hand. */
    private static void answersEnd() {
        BusBridge x = withSlaves(0);
        x.transfer(0, false, 0, 2, 0);
        x.transfer(8, true, 5, 2, 0);
        x.clock(6);
        check.due("wire(12) ahead of the write", x.wire(12), 0);
        check.due("wire(14)", x.wire(14), 70);
        x.clock(1);
        check.due("wire(12) of a write", x.wire(12), 1);
        check.due("wire(13) where there is no REGISTER", x.wire(13), 1);
        check.due("wire(14) of a write", x.wire(14), 0);
        x.reset();
        x.turn(7, 1, 1);
        x.turn(10, 1, 1);
        x.turn(9, 8, 1);
        x.clock(2);
        check.due("wire(12) by hand", x.wire(12), 1);
        check.due("wire(13) by hand", x.wire(13), 1);
        x.clock(1);
        check.due("wire(12) with no SLAVE's bit", x.wire(12), 0);
        check.due("wire(13) with no SLAVE's bit", x.wire(13), 0);
        // SLAVE 0 answers with an ERROR, SLAVE 1, the greater one, with none.
        x.reset();
        x.turn(7, 3, 1);
        x.turn(9, 32, 1);
        x.turn(10, 1, 1);
        x.turn(11, 4, 1);
        x.clock(2);
        check.due("wire(12) of two", x.wire(12), 1);
        check.due("wire(13) of two", x.wire(13), 0);
        check.due("value(32)", x.value(32), 4);
    }

    private static void addressBelowByHand() {
        BusBridge x = withSlaves(0);
        x.transfer(0, false, 0, 2, 0);
        x.clock(1);
        x.turn(9, 4, 1);
        x.finish(100);
        check.due("log(0, 3): the REGISTER at 4 was read", x.log(0, 3), 74);
        check.due("log(0, 1)", x.log(0, 1), 0);
        x.reset();
        x.transfer(0, false, 0, 2, 0);
        x.clock(1);
        x.turn(10, 2, 1);
        x.turn(11, 6, 1);
        x.finish(100);
        check.due("value(0): PWRITE not 0 is a write", x.value(0), 6);
        check.due("log(0, 2)", x.log(0, 2), 0);
        check.due("log(0, 3): PRDATA is 0 of a write", x.log(0, 3), 0);
    }
}
