/** Promises 1 to 6, 17 and 18: a new object, THE MAP, DEPTH, LIMIT, reset, values and ranges. */
public final class MapTest {
    private static final Check check = new Check("MapTest");

    public static void main(String[] args) {
        newObject();
        slaves();
        slaveRefusals();
        slavesThatMeet();
        registers();
        registerRefusals();
        depths();
        limits();
        resets();
        resetCounts();
        resetOfSlaves();
        resetOfMonitors();
        values();
        ranges();
        check.close();
    }

    private static void newObject() {
        BusBridge x = new BusBridge();
        check.due("status() of a new object", x.status(), 0);
        for (int what = 0; what < 8; what++) {
            check.well("told(" + what + ")", x, x.told(what), 0);
        }
        for (int what = 0; what < 6; what++) {
            check.well("bridge(" + what + ")", x, x.bridge(what), 0);
        }
        for (int i = 0; i < 15; i++) {
            check.well("wire(" + i + ")", x, x.wire(i), i == 4 ? 1 : 0);
            check.well("under(" + i + ")", x, x.under(i), i == 4 ? 1 : 0);
        }
        check.well("decode(0)", x, x.decode(0), BusBridge.NONE);
        check.well("findings(0)", x, x.findings(0), 0);
        check.well("again()", x, x.again(), BusBridge.NONE);
        check.well("finish(10)", x, x.finish(10), 0);
        for (int k = 0; k < 3; k++) {
            check.refused("back(" + k + ")", x, x.back(k), BusBridge.UNKNOWN);
        }
    }

    private static void slaves() {
        BusBridge x = new BusBridge();
        check.well("slave(65532, 65532, 15, true)", x, x.slave(65532, 65532, 15, true), 0);
        check.well("slave(0, 0, 0, false)", x, x.slave(0, 0, 0, false), 1);
        for (int s = 2; s < 8; s++) {
            check.well("slave " + s, x, x.slave(s * 8, s * 8 + 4, s, false), s);
        }
        check.refused("a ninth slave", x, x.slave(100, 100, 0, false), BusBridge.FULL);
        check.refused("a ninth slave that meets one", x, x.slave(0, 0, 0, false), BusBridge.FULL);
        check.refused("a ninth slave, no word", x, x.slave(101, 104, 0, false), BusBridge.OUTSIDE);
        check.due("told(0)", x.told(0), 8);
        x.clock(1);
        check.refused("a ninth slave in clock 1", x, x.slave(100, 100, 0, false), BusBridge.STATE);
    }

    private static void slaveRefusals() {
        BusBridge x = new BusBridge();
        int[][] wrong = {
            {-4, 4, 0}, {0, -4, 0}, {1, 4, 0}, {2, 4, 0}, {3, 4, 0}, {0, 5, 0}, {0, 65535, 0}, {65536, 65536, 0},
            {0, 65536, 0}, {8, 4, 0}, {0, 4, -1}, {0, 4, 16}, {Integer.MIN_VALUE, 4, 0}, {0, Integer.MAX_VALUE, 0},
            {0, 4, Integer.MAX_VALUE}, {0, 4, Integer.MIN_VALUE}
        };
        for (int[] w : wrong) {
            check.refused("slave(" + w[0] + ", " + w[1] + ", " + w[2] + ", false)", x,
                x.slave(w[0], w[1], w[2], false), BusBridge.OUTSIDE);
        }
        check.due("told(0)", x.told(0), 0);
        x.clock(1);
        check.refused("slave(0, 4, 0, false) in clock 1", x, x.slave(0, 4, 0, false), BusBridge.STATE);
        check.refused("slave(1, 4, 0, false) in clock 1", x, x.slave(1, 4, 0, false), BusBridge.OUTSIDE);
        x.reset();
        check.well("slave(0, 4, 0, false) behind reset()", x, x.slave(0, 4, 0, false), 0);
    }

    private static void slavesThatMeet() {
        BusBridge x = new BusBridge();
        x.slave(16, 32, 0, false);
        int[][] meeting = {{16, 32}, {0, 16}, {32, 40}, {20, 24}, {0, 100}, {16, 16}, {32, 32}};
        for (int[] m : meeting) {
            check.refused("slave(" + m[0] + ", " + m[1] + ")", x, x.slave(m[0], m[1], 0, false), BusBridge.NO);
        }
        check.well("slave(0, 12)", x, x.slave(0, 12, 0, false), 1);
        check.well("slave(36, 40)", x, x.slave(36, 40, 0, false), 2);
    }

    private static void registers() {
        BusBridge x = new BusBridge();
        x.slave(0, 300, 0, false);
        x.slave(65532, 65532, 0, false);
        check.well("register(65532, 7, 1)", x, x.register(65532, 7, 1), 1);
        for (int r = 1; r < 48; r++) {
            check.well("register " + r, x, x.register(r * 4, r % 7, -r), r + 1);
            check.well("value of it", x, x.value(r * 4), -r);
        }
        check.refused("register 48", x, x.register(0, 0, 0), BusBridge.FULL);
        check.refused("register 48 where there is one", x, x.register(4, 0, 0), BusBridge.FULL);
        check.refused("register 48 of no kind", x, x.register(0, 8, 0), BusBridge.OUTSIDE);
        check.due("told(1)", x.told(1), 48);
        x.clock(1);
        check.refused("register 48 in clock 1", x, x.register(0, 0, 0), BusBridge.STATE);
    }

    private static void registerRefusals() {
        BusBridge x = new BusBridge();
        check.refused("register(0, 0, 0) without slaves", x, x.register(0, 0, 0), BusBridge.NO);
        x.slave(8, 16, 0, false);
        int[][] wrong = {
            {-4, 0, 0}, {9, 0, 0}, {10, 0, 0}, {11, 0, 0}, {65536, 0, 0}, {65535, 0, 0}, {8, -1, 0}, {8, 8, 0},
            {8, 7, 2}, {8, 7, -1}, {Integer.MIN_VALUE, 0, 0}, {Integer.MAX_VALUE, 0, 0}, {8, Integer.MAX_VALUE, 0}
        };
        for (int[] w : wrong) {
            check.refused("register(" + w[0] + ", " + w[1] + ", " + w[2] + ")", x,
                x.register(w[0], w[1], w[2]), BusBridge.OUTSIDE);
        }
        check.refused("register(4, 0, 0)", x, x.register(4, 0, 0), BusBridge.NO);
        check.refused("register(20, 0, 0)", x, x.register(20, 0, 0), BusBridge.NO);
        check.well("register(16, 0, 2)", x, x.register(16, 0, 2), 1);
        check.refused("register(16, 1, 3)", x, x.register(16, 1, 3), BusBridge.NO);
        check.due("value(16)", x.value(16), 2);
        x.clock(1);
        check.refused("register(8, 0, 0) in clock 1", x, x.register(8, 0, 0), BusBridge.STATE);
        check.refused("register(9, 0, 0) in clock 1", x, x.register(9, 0, 0), BusBridge.OUTSIDE);
        check.refused("register(16, 0, 0) in clock 1", x, x.register(16, 0, 0), BusBridge.STATE);
    }

    private static void depths() {
        BusBridge x = new BusBridge();
        check.well("depth(4)", x, x.depth(4), 0);
        check.well("depth(0)", x, x.depth(0), 4);
        check.well("depth(3)", x, x.depth(3), 0);
        check.refused("depth(5)", x, x.depth(5), BusBridge.OUTSIDE);
        check.refused("depth(-1)", x, x.depth(-1), BusBridge.OUTSIDE);
        x.clock(1);
        check.refused("depth(1) in clock 1", x, x.depth(1), BusBridge.STATE);
        check.refused("depth(5) in clock 1", x, x.depth(5), BusBridge.OUTSIDE);
        x.reset();
        check.well("depth(2) behind reset()", x, x.depth(2), 3);
    }

    private static void limits() {
        BusBridge x = new BusBridge();
        check.well("limit(4)", x, x.limit(4), 32);
        check.well("limit(60)", x, x.limit(60), 4);
        check.refused("limit(3)", x, x.limit(3), BusBridge.OUTSIDE);
        check.refused("limit(61)", x, x.limit(61), BusBridge.OUTSIDE);
        x.clock(1);
        check.refused("limit(5) in clock 1", x, x.limit(5), BusBridge.STATE);
        check.refused("limit(3) in clock 1", x, x.limit(3), BusBridge.OUTSIDE);
        x.reset();
        check.well("limit(5) behind reset()", x, x.limit(5), 60);
    }

    /** A machine in the midst of all: POSTED writes, an ACT under way, TURNED wires, findings, LATE. */
    private static void resets() {
        BusBridge x = new BusBridge();
        check.well("reset() in clock 0", x, x.reset(), 0);
        x.slave(0, 28, 3, false);
        x.register(0, 5, 7);
        x.register(4, 4, 100);
        x.depth(2);
        x.limit(9);
        for (int i = 0; i < 6; i++) {
            x.transfer((i * 4 + 8) % 12, true, i, 2, 0);
        }
        x.turn(6, 8, 100);
        x.turn(5, 1, 1);
        x.clock(9);
        check.due("bridge(3) ahead of reset()", x.bridge(3), 1);
        check.due("bridge(2) ahead of reset()", x.bridge(2), 1);
        check.due("findings(0) ahead of reset()", x.findings(0), 2);
        check.well("reset()", x, x.reset(), 9);
        asAtFirst(x);
        x.transfer(0, true, 9, 2, 0);
        check.due("finish(100): posted, WAIT 3", x.finish(100), 8);
        check.due("log(0, 6): ONCE is fresh again", x.log(0, 6), 1);
        check.due("value(0)", x.value(0), 9);
        check.due("findings(0)", x.findings(0), 0);
        x.reset();
        x.transfer(0, false, 0, 2, 0);
        x.turn(6, 8, 9);
        check.due("reset() in clock 0 takes TRANSFERS too", x.reset(), 0);
        x.clock(3);
        check.due("wire(6)", x.wire(6), 0);
        check.due("told(2)", x.told(2), 0);
    }

    /** What would be seen only later: GAPs gone by, how many CANCELLED, TIMEOUTS, rows used before. */
    private static void resetCounts() {
        BusBridge x = new BusBridge();
        x.slave(0, 28, 0, true);
        x.limit(4);
        x.transfer(0, false, 0, 2, 0);
        x.transfer(0, true, 0, 2, 0);
        x.transfer(0, true, 0, 2, 7);
        x.clock(12);
        check.due("told(4)", x.told(4), 1);
        check.due("bridge(4)", x.bridge(4), 1);
        x.reset();
        check.due("told(4) behind reset()", x.told(4), 0);
        check.due("bridge(4) behind reset()", x.bridge(4), 0);
        x.transfer(0, false, 0, 2, 2);
        check.due("result(0, 0)", x.result(0, 0), 0);
        check.due("result(0, 3)", x.result(0, 3), BusBridge.NONE);
        x.clock(3);
        check.due("result(0, 2): the whole GAP", x.result(0, 2), 3);
        x.clock(1);
        check.due("log(0, 6)", x.log(0, 6), 0);
        check.due("log(0, 5)", x.log(0, 5), BusBridge.NONE);
    }

    private static void resetOfSlaves() {
        BusBridge x = new BusBridge();
        x.slave(0, 28, 9, false);
        x.transfer(0, false, 0, 2, 0);
        x.clock(4);
        x.reset();
        x.transfer(0, false, 0, 2, 0);
        x.clock(1);
        x.turn(8, 1, 1);
        x.clock(2);
        check.due("wire(12): ENABLE in SETUP by hand, and the SLAVE counts 0", x.wire(12), 1);
    }

    private static void resetOfMonitors() {
        BusBridge x = new BusBridge();
        x.turn(4, 1, 100);
        x.clock(61);
        x.reset();
        x.turn(4, 1, 60);
        x.clock(61);
        check.due("findings(7): 60 clocks on each side of reset()", x.findings(7), 0);
        check.due("findings(6)", x.findings(6), 60);
    }

    private static void asAtFirst(BusBridge x) {
        for (int i = 0; i < 15; i++) {
            check.due("wire(" + i + ") behind reset()", x.wire(i), i == 4 ? 1 : 0);
        }
        for (int what = 2; what < 8; what++) {
            check.due("told(" + what + ") behind reset()", x.told(what), 0);
        }
        for (int what = 0; what < 6; what++) {
            check.due("bridge(" + what + ") behind reset()", x.bridge(what), 0);
        }
        check.due("findings(0) behind reset()", x.findings(0), 0);
        check.due("value(0) behind reset()", x.value(0), 7);
        check.due("value(4) behind reset()", x.value(4), 100);
        check.due("told(0) behind reset()", x.told(0), 1);
        check.due("told(1) behind reset()", x.told(1), 2);
        check.due("depth(2) behind reset()", x.depth(2), 2);
        check.due("limit(9) behind reset()", x.limit(9), 9);
    }

    private static void values() {
        BusBridge x = new BusBridge();
        x.slave(0, 28, 0, false);
        x.register(0, 4, 10);
        x.register(4, 4, Integer.MAX_VALUE);
        x.register(8, 6, 5);
        x.clock(1);
        check.well("value(0)", x, x.value(0), 11);
        check.well("value(4)", x, x.value(4), Integer.MIN_VALUE);
        x.clock(499);
        check.well("value(0)", x, x.value(0), 510);
        check.well("value(8)", x, x.value(8), 5);
        check.well("value(8) leaves it", x, x.value(8), 5);
        int[] nowhere = {12, 1, 2, 3, 32, -4, 65536, Integer.MIN_VALUE, Integer.MAX_VALUE};
        for (int word : nowhere) {
            check.refused("value(" + word + ")", x, x.value(word), 0, BusBridge.UNKNOWN);
        }
    }

    private static void ranges() {
        BusBridge x = new BusBridge();
        x.slave(16, 28, 0, false);
        x.slave(65532, 65532, 0, true);
        x.slave(32, 32, 0, false);
        int[][] rows = {
            {15, BusBridge.NONE}, {16, 0}, {17, 0}, {28, 0}, {31, 0}, {32, 2}, {35, 2}, {36, BusBridge.NONE},
            {65531, BusBridge.NONE}, {65532, 1}, {65535, 1}, {65536, BusBridge.NONE}, {-1, BusBridge.NONE},
            {Integer.MAX_VALUE, BusBridge.NONE}, {Integer.MIN_VALUE, BusBridge.NONE}
        };
        for (int[] row : rows) {
            check.well("decode(" + row[0] + ")", x, x.decode(row[0]), row[1]);
        }
    }
}
