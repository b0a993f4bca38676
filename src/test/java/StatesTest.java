/** Promises 21 to 25: states kept and compared, what is told, and status. */
public final class StatesTest {
    private static final Check check = new Check("StatesTest");
    private static final int NONE = BusBridge.NONE;

    public static void main(String[] args) {
        goesOnAlike();
        placesAreApart();
        keptStays();
        keptTurned();
        keptMonitors();
        mapChanged();
        sameDepthIsNoChange();
        places();
        differingWires();
        differingValueAndClock();
        told();
        status();
        check.close();
    }

    private static BusBridge busy() {
        BusBridge x = new BusBridge();
        x.slave(0, 28, 2, false);
        x.slave(32, 60, 1, true);
        x.limit(5);
        x.depth(2);
        for (int kind = 0; kind < 8; kind++) {
            x.register(kind * 4, kind, kind == 7 ? 0 : 9);
        }
        for (int t = 0; t < 12; t++) {
            x.transfer(t * 5 % 11 * 4, t % 4 != 3, t % 3, t % 3 == 0 ? 3 : 2, t % 4);
        }
        return x;
    }

    /** What is told of an object, folded into one number by some 90 calls: five of these leave it below 512. */
    private static int sum(BusBridge x) {
        int sum = x.again();
        int transfers = x.told(2);
        int acts = x.told(5);
        for (int i = 0; i < 15; i++) {
            sum = sum * 31 + x.wire(i);
        }
        for (int i = 0; i < 6; i++) {
            sum = sum * 31 + x.bridge(i);
        }
        for (int i = 3; i < 8; i++) {
            sum = sum * 31 + x.told(i);
        }
        for (int i = 0; i < transfers; i++) {
            sum = sum * 31 + x.result(i, 0) + 7 * x.result(i, 1 + i % 3);
        }
        for (int i = 0; i < acts; i++) {
            sum = sum * 31 + x.log(i, 3 + i % 3);
        }
        for (int i = 0; i < 16; i++) {
            sum = sum * 31 + x.findings(i);
        }
        for (int i = 0; i < 32; i += 4) {
            sum = sum * 31 + x.value(i);
        }
        return sum;
    }

    /** From each clock on, what comes behind back() is what came behind keep(). */
    private static void goesOnAlike() {
        for (int clock = 0; clock < 70; clock++) {
            BusBridge x = busy();
            x.turn(4, 1, 3);
            x.turn(12, 1, 2);
            x.clock(clock / 2);
            x.turn(8, 1, 2);
            x.turn(9, 1, 90);
            x.clock(clock - clock / 2);
            check.well("keep(2)", x, x.keep(2), 1);
            int here = sum(x);
            x.clock(1);
            int near = sum(x);
            x.transfer(0, true, 99, 2, 0);
            x.turn(13, 1, 60);
            x.clock(31);
            int far = sum(x);
            check.well("back(2)", x, x.back(2), clock);
            check.well("differs(2)", x, x.differs(2), NONE);
            check.due("all in clock " + clock + " behind back()", sum(x), here);
            x.clock(1);
            check.due("all in the next clock", sum(x), near);
            x.transfer(0, true, 99, 2, 0);
            x.turn(13, 1, 60);
            x.clock(31);
            check.due("all 32 clocks later", sum(x), far);
        }
    }

    private static void placesAreApart() {
        BusBridge x = busy();
        x.keep(0);
        x.clock(20);
        x.keep(1);
        x.clock(20);
        x.keep(2);
        check.well("back(1)", x, x.back(1), 20);
        check.well("back(0)", x, x.back(0), 0);
        check.well("back(2)", x, x.back(2), 40);
        x.keep(0);
        x.clock(5);
        check.well("back(0), kept anew", x, x.back(0), 40);
        check.well("back(1)", x, x.back(1), 20);
    }

    private static void keptStays() {
        BusBridge x = busy();
        x.clock(13);
        x.keep(0);
        int here = sum(x);
        check.well("reset()", x, x.reset(), 13);
        check.well("back(0) behind reset()", x, x.back(0), 13);
        check.due("all behind back()", sum(x), here);
        x.clock(40);
        check.well("back(0) once more", x, x.back(0), 13);
        check.due("all behind back()", sum(x), here);
    }

    private static void keptTurned() {
        BusBridge x = new BusBridge();
        x.turn(6, 5, 4);
        x.clock(2);
        x.keep(0);
        x.clock(9);
        x.turn(6, 3, 100);
        x.back(0);
        check.due("wire(6) in clock 2", x.wire(6), 5);
        x.clock(2);
        check.due("wire(6) in clock 4", x.wire(6), 5);
        x.clock(1);
        check.due("wire(6) in clock 5", x.wire(6), 0);
    }

    private static void keptMonitors() {
        BusBridge x = new BusBridge();
        x.slave(0, 28, 9, false);
        x.turn(4, 1, 100);
        x.clock(61);
        x.keep(0);
        x.reset();
        x.clock(5);
        x.back(0);
        x.clock(40);
        check.due("findings(7): 60 clocks low as it was kept, 40 behind it", x.findings(7), 1);
        x.reset();
        x.transfer(0, true, 5, 2, 0);
        x.clock(4);
        x.keep(0);
        x.reset();
        x.transfer(0, false, 5, 2, 0);
        x.clock(4);
        x.back(0);
        x.turn(3, 1, 1);
        x.clock(3);
        check.due("findings(3): the DATA phase is a write's", x.findings(3), 2);
    }

    private static void stale(String what, BusBridge x) {
        check.refused("back(1) behind " + what, x, x.back(1), BusBridge.STATE);
        check.refused("differs(1) behind " + what, x, x.differs(1), BusBridge.STATE);
        check.refused("back(0) behind " + what, x, x.back(0), BusBridge.UNKNOWN);
        x.keep(1);
        check.well("back(1), kept anew", x, x.back(1), 0);
        check.well("differs(1), kept anew", x, x.differs(1), NONE);
    }

    private static void mapChanged() {
        BusBridge x = new BusBridge();
        x.keep(1);
        x.slave(0, 28, 0, false);
        stale("slave", x);
        x.register(0, 0, 0);
        stale("register", x);
        x.depth(1);
        stale("depth", x);
        x.limit(8);
        stale("limit", x);
        x.slave(0, 28, 0, false);
        x.register(0, 0, 0);
        x.depth(5);
        x.limit(3);
        check.well("back(1) behind refused calls", x, x.back(1), 0);
    }

    /** The document: STATE if they "were changed since": setting what is there changes nothing. */
    private static void sameDepthIsNoChange() {
        BusBridge x = new BusBridge();
        x.keep(0);
        x.depth(0);
        x.limit(32);
        check.well("back(0)", x, x.back(0), 0);
        x.depth(2);
        x.depth(0);
        check.refused("back(0) behind two changes", x, x.back(0), BusBridge.STATE);
    }

    private static void places() {
        BusBridge x = busy();
        int[] noPlaces = {-1, 3, Integer.MAX_VALUE, Integer.MIN_VALUE};
        for (int k : noPlaces) {
            check.refused("keep(" + k + ")", x, x.keep(k), BusBridge.UNKNOWN);
            check.refused("back(" + k + ")", x, x.back(k), BusBridge.UNKNOWN);
            check.refused("differs(" + k + ")", x, x.differs(k), BusBridge.UNKNOWN);
        }
        for (int k = 0; k < 3; k++) {
            check.refused("back(" + k + ") of nothing", x, x.back(k), BusBridge.UNKNOWN);
            check.refused("differs(" + k + ") of nothing", x, x.differs(k), BusBridge.UNKNOWN);
            check.well("keep(" + k + ")", x, x.keep(k), 1);
            check.well("back(" + k + ")", x, x.back(k), 0);
        }
    }

    /** One read of WAIT 0 and one clock after the other, compared with the clock before. */
    private static void differingWires() {
        BusBridge x = new BusBridge();
        x.slave(0, 28, 0, false);
        x.register(8, 0, 78);
        x.register(12, 1, 0);
        x.transfer(8, false, 0, 2, 0);
        // ADDR; TRANS; ENABLE (PREADY, PRDATA too); READY (RDATA, SEL .. too); then the clock alone.
        int[] first = {0, 2, 8, 4, 16, 16};
        for (int clock = 0; clock < first.length; clock++) {
            x.keep(0);
            x.clock(1);
            check.well("differs(0) behind clock " + clock, x, x.differs(0), first[clock]);
        }
        x.keep(0);
        x.turn(0, 5, 9);
        check.well("differs(0): TURNED wires to come", x, x.differs(0), NONE);
        x.clock(1);
        check.well("differs(0): what is beneath is the same", x, x.differs(0), 16);
        x.transfer(8, true, 0, 2, 0);
        check.well("differs(0): TRANSFERS are not compared", x, x.differs(0), 16);
        x.clock(1);
        check.well("differs(0): WRITE", x, x.differs(0), 1);
    }

    private static void differingValueAndClock() {
        BusBridge x = new BusBridge();
        x.slave(0, 28, 0, false);
        x.register(4, 0, 1);
        x.keep(0);
        x.clock(2);
        check.well("differs(0)", x, x.differs(0), 16);
        x.reset();
        x.register(8, 4, 1);
        x.keep(0);
        x.clock(2);
        check.well("differs(0)", x, x.differs(0), 15);
        x.reset();
        check.well("differs(0) behind reset()", x, x.differs(0), NONE);
        BusBridge y = new BusBridge();
        y.slave(0, 28, 0, false);
        y.register(4, 4, 1);
        y.register(8, 0, 1);
        y.keep(0);
        y.clock(2);
        check.well("differs(0) by the first REGISTER alone", y, y.differs(0), 15);
    }

    private static void told() {
        BusBridge x = new BusBridge();
        x.slave(0, 28, 0, false);
        x.slave(32, 60, 0, false);
        x.register(0, 0, 0);
        x.register(4, 0, 0);
        x.register(8, 0, 0);
        x.transfer(0, false, 0, 3, 0);
        x.transfer(12, true, 0, 2, 0);
        x.transfer(8, false, 0, 2, 0);
        x.transfer(12, true, 0, 3, 0);
        x.transfer(32, false, 0, 2, 0);
        x.finish(100);
        int[] row = {2, 3, 5, 3, 2, 3, 1, x.told(7)};
        for (int what = 0; what < 8; what++) {
            check.well("told(" + what + ")", x, x.told(what), row[what]);
        }
        int[] nothing = {-1, 8, Integer.MAX_VALUE, Integer.MIN_VALUE};
        for (int what : nothing) {
            check.refused("told(" + what + ")", x, x.told(what), BusBridge.OUTSIDE);
        }
    }

    private static void status() {
        BusBridge x = new BusBridge();
        check.due("status()", x.status(), 0);
        x.depth(9);
        check.due("status()", x.status(), BusBridge.OUTSIDE);
        check.due("status() once more", x.status(), BusBridge.OUTSIDE);
        x.decode(-1);
        check.due("status() behind NONE", x.status(), 0);
        x.wire(15);
        check.due("status()", x.status(), BusBridge.UNKNOWN);
        x.clock(1);
        check.due("status()", x.status(), 0);
        x.depth(1);
        check.due("status()", x.status(), BusBridge.STATE);
        x.reset();
        check.due("status()", x.status(), 0);
        x.register(0, 0, 0);
        check.due("status()", x.status(), BusBridge.NO);
        x.keep(0);
        check.due("status()", x.status(), 0);
        for (int t = 0; t < 61; t++) {
            x.transfer(0, false, 0, 2, 0);
        }
        check.due("status()", x.status(), BusBridge.FULL);
        x.findings(0);
        check.due("status()", x.status(), 0);
        x.turn(6, -1, 1);
        x.clock(1);
        check.due("wire(6) is -1", x.wire(6), -1);
        check.due("status() of an answer that is -1", x.status(), 0);
    }
}
