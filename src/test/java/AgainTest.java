/** Promise 20: THE LOG played again. (FULL: in BridgeTest, with the other ends of THE LOG.) */
public final class AgainTest {
    private static final Check check = new Check("AgainTest");
    private static final int NONE = BusBridge.NONE;

    public static void main(String[] args) {
        allKinds();
        counters();
        errorByHand();
        errorHidden();
        dataByHand();
        writtenOtherwise();
        leftAtFirst();
        timeoutsAreNotPlayed();
        underWayIsNotPlayed();
        changesNothing();
        check.close();
    }

    private static BusBridge withSlave(int wait) {
        BusBridge x = new BusBridge();
        x.slave(0, 60, wait, false);
        for (int kind = 0; kind < 8; kind++) {
            x.register(kind * 4, kind, kind == 7 ? 0 : 10 + kind);
        }
        return x;
    }

    private static void allKinds() {
        for (int depth = 0; depth <= 4; depth += 2) {
            for (int wait = 0; wait < 4; wait++) {
                BusBridge x = withSlave(wait);
                x.depth(depth);
                for (int t = 0; t < 30; t++) {
                    x.transfer(t * 7 % 10 * 4, true, t % 3, 2, 0);
                    x.transfer(t * 3 % 9 * 4, false, 0, 2, 0);
                }
                x.finish(2000);
                check.well("again() of DEPTH " + depth + ", WAIT " + wait, x, x.again(), NONE);
            }
        }
    }

    private static void counters() {
        BusBridge x = withSlave(3);
        x.transfer(16, false, 0, 2, 0);
        x.transfer(16, true, Integer.MAX_VALUE, 2, 3);
        x.transfer(16, false, 0, 2, 7);
        x.transfer(16, true, 5, 2, 1);
        x.transfer(16, true, 6, 2, 0);
        x.transfer(16, false, 0, 2, 0);
        x.finish(200);
        check.due("result(0, 1): done by the SLAVE in clock 5", x.result(0, 1), 14 + 5);
        check.well("again()", x, x.again(), NONE);
        // A read by hand gives the COUNTER of another clock.
        x.reset();
        x.transfer(16, false, 0, 2, 0);
        x.clock(2);
        x.turn(12, 1, 1);
        x.turn(14, 14 + 2, 1);
        x.finish(100);
        check.due("log(0, 5)", x.log(0, 5), 3);
        check.well("again(): as of clock 2", x, x.again(), NONE);
        x.reset();
        x.transfer(16, false, 0, 2, 0);
        x.clock(2);
        x.turn(12, 1, 1);
        x.turn(14, 14 + 3, 1);
        x.finish(100);
        check.well("again(): not as of clock 3", x, x.again(), 0);
    }

    private static void errorByHand() {
        BusBridge x = withSlave(0);
        x.transfer(0, false, 0, 2, 0);
        x.finish(100);
        x.transfer(0, false, 0, 2, 0);
        x.clock(2);
        x.turn(13, 1, 1);
        x.finish(100);
        check.due("log(1, 6)", x.log(1, 6), 2);
        check.well("again() with a read's ERROR", x, x.again(), 1);
        BusBridge y = withSlave(0);
        y.transfer(0, true, 4, 2, 0);
        y.clock(3);
        y.turn(13, 1, 1);
        y.finish(100);
        check.well("again() with a write's ERROR", y, y.again(), 0);
    }

    private static void errorHidden() {
        BusBridge x = withSlave(0);
        x.transfer(60, true, 4, 2, 0);
        x.clock(3);
        x.turn(13, 1, 1);
        x.finish(100);
        check.due("log(0, 6)", x.log(0, 6), 1);
        check.well("again()", x, x.again(), 0);
    }

    private static void dataByHand() {
        BusBridge x = withSlave(0);
        x.transfer(0, false, 0, 2, 0);
        x.transfer(4, false, 0, 2, 0);
        x.transfer(8, false, 0, 2, 0);
        x.clock(8);
        x.turn(14, 1, 1);
        x.finish(100);
        check.due("log(2, 3)", x.log(2, 3), 13);
        check.well("again()", x, x.again(), 2);
    }

    private static void writtenOtherwise() {
        BusBridge x = withSlave(0);
        x.transfer(0, true, 5, 2, 0);
        x.clock(2);
        x.turn(11, 2, 1);
        x.finish(100);
        check.well("again() ahead of a read", x, x.again(), NONE);
        x.transfer(4, false, 0, 2, 0);
        x.transfer(0, false, 0, 2, 0);
        x.finish(100);
        check.due("log(2, 3)", x.log(2, 3), 7);
        check.well("again()", x, x.again(), 2);
    }

    /** A ONCE spent by hand: the played one is spent later. */
    private static void leftAtFirst() {
        BusBridge x = withSlave(0);
        x.turn(7, 1, 1);
        x.turn(9, 20, 1);
        x.turn(10, 1, 1);
        x.turn(11, 3, 1);
        x.clock(3);
        check.due("value(20)", x.value(20), 3);
        x.transfer(20, true, 4, 2, 0);
        x.finish(100);
        check.due("log(0, 6)", x.log(0, 6), 2);
        check.well("again()", x, x.again(), 0);
    }

    private static void timeoutsAreNotPlayed() {
        BusBridge x = withSlave(4);
        x.limit(4);
        x.transfer(0, true, 5, 2, 0);
        x.finish(100);
        check.due("log(0, 6)", x.log(0, 6), 3);
        check.due("value(0)", x.value(0), 5);
        check.well("again()", x, x.again(), NONE);
        x.transfer(0, false, 0, 2, 0);
        x.clock(5);
        x.turn(12, 1, 1);
        x.turn(14, 5, 1);
        x.finish(100);
        check.due("log(1, 6)", x.log(1, 6), 1);
        check.due("log(1, 3)", x.log(1, 3), 5);
        check.well("again(): 10 as at first", x, x.again(), 1);
    }

    private static void underWayIsNotPlayed() {
        BusBridge x = withSlave(9);
        x.transfer(60, true, 5, 2, 0);
        x.clock(6);
        check.due("log(0, 6)", x.log(0, 6), 0);
        check.well("again()", x, x.again(), NONE);
    }

    private static void changesNothing() {
        BusBridge x = withSlave(0);
        x.transfer(24, true, 5, 2, 0);
        x.transfer(24, false, 0, 2, 0);
        x.transfer(24, true, 6, 2, 0);
        x.finish(100);
        x.keep(0);
        for (int i = 0; i < 3; i++) {
            check.well("again()", x, x.again(), NONE);
        }
        check.due("value(24)", x.value(24), 6);
        check.due("differs(0)", x.differs(0), NONE);
    }
}
