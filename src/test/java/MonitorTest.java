/** Promises 15 and 16: FINDINGS of each rule, by wires that are turned by hand. */
public final class MonitorTest {
    private static final Check check = new Check("MonitorTest");
    private static final int ADDR = 0, WRITE = 1, TRANS = 2, WDATA = 3, READY = 4, RESP = 5;
    private static final int SEL = 7, ENABLE = 8, PADDR = 9, PWRITE = 10, PWDATA = 11;
    private static final int NOWHERE = 1000;

    public static void main(String[] args) {
        nothingFound();
        addressHeld();
        burst();
        dataHeld();
        errorInTwoClocks();
        respAndReadyWithoutData();
        readyLowForLong();
        select();
        enable();
        brokenOff();
        actHeld();
        enableBehindReady();
        aimed();
        timeouts();
        sixtyKept();
        refusals();
        check.close();
    }

    private static BusBridge withSlaves(int count, int wait) {
        BusBridge x = new BusBridge();
        for (int s = 0; s < count; s++) {
            x.slave(s * 32, s * 32 + 28, wait, false);
        }
        x.register(0, 0, 70);
        return x;
    }

    /** All FINDINGS, as pairs of a clock and a rule. */
    private static void found(String what, BusBridge x, int... pairs) {
        int[] counts = new int[16];
        counts[0] = pairs.length / 2;
        for (int i = 0; i < pairs.length / 2; i++) {
            check.well(what + ": finding(" + i + ", 0)", x, x.finding(i, 0), pairs[2 * i]);
            check.well(what + ": finding(" + i + ", 1)", x, x.finding(i, 1), pairs[2 * i + 1]);
            counts[pairs[2 * i + 1]]++;
        }
        check.refused(what + ": one more", x, x.finding(pairs.length / 2, 0), BusBridge.UNKNOWN);
        for (int rule = 0; rule <= 15; rule++) {
            check.well(what + ": findings(" + rule + ")", x, x.findings(rule), counts[rule]);
        }
        check.well(what + ": told(6)", x, x.told(6), counts[0]);
    }

    private static void nothingFound() {
        BusBridge x = withSlaves(2, 1);
        x.depth(2);
        for (int t = 0; t < 12; t++) {
            x.transfer(t % 2 * 32, t % 3 != 0, t, 2, t % 5);
        }
        x.transfer(NOWHERE, true, 1, 2, 0);
        x.transfer(4, true, 1, 2, 0);
        x.transfer(4, true, 1, 2, 3);
        x.finish(500);
        found("no hand on the wires", x);
        BusBridge y = new BusBridge();
        y.clock(5);
        found("no slaves", y);
    }

    /** Reads of 0 and 4: in clocks 2 and 3 READY is 0 with 4 in its ADDRESS phase. */
    private static BusBridge twoReads(int wire, int mask) {
        BusBridge x = withSlaves(1, 0);
        x.transfer(0, false, 0, 2, 0);
        x.transfer(4, false, 0, 2, 0);
        x.clock(2);
        x.turn(wire, mask, 1);
        x.clock(8);
        return x;
    }

    private static void addressHeld() {
        found("ADDR", twoReads(ADDR, 8), 3, 1, 4, 1);
        found("WRITE", twoReads(WRITE, 1), 3, 1, 4, 1);
        found("TRANS 3", twoReads(TRANS, 1), 3, 1, 4, 1);
        found("TRANS 0", twoReads(TRANS, 2), 3, 1);
        found("WDATA of a read", twoReads(WDATA, 1));
        BusBridge x = withSlaves(1, 0);
        x.transfer(NOWHERE, false, 0, 2, 0);
        x.transfer(4, false, 0, 2, 0);
        x.clock(8);
        found("with V RESP not 0 TRANS may change", x);
    }

    private static BusBridge pair(int address, boolean write, int gap) {
        BusBridge x = withSlaves(1, 0);
        x.transfer(0, false, 0, 2, 0);
        x.transfer(address, write, 0, 3, gap);
        x.clock(12);
        return x;
    }

    private static void burst() {
        found("the next word", pair(4, false, 0));
        found("not the next word", pair(8, false, 0), 2, 2);
        found("the same word", pair(0, false, 0), 2, 2);
        found("a write behind a read", pair(4, true, 0), 2, 2);
        found("behind a GAP", pair(4, false, 1), 5, 2);
        BusBridge x = withSlaves(1, 0);
        x.transfer(0, false, 0, 3, 0);
        x.clock(8);
        found("KIND 3 first of all", x, 1, 2);
        BusBridge y = withSlaves(1, 0);
        y.transfer(0, false, 0, 2, 0);
        y.transfer(4, false, 0, 3, 0);
        y.transfer(8, false, 0, 3, 0);
        y.clock(16);
        found("three in a row", y);
    }

    private static void dataHeld() {
        BusBridge x = withSlaves(1, 2);
        x.transfer(0, true, 5, 2, 0);
        x.clock(2);
        x.turn(WDATA, 1, 1);
        x.clock(10);
        found("WDATA of a write", x, 3, 3, 4, 3);
        BusBridge y = withSlaves(1, 2);
        y.transfer(0, true, 5, 2, 0);
        y.clock(1);
        y.turn(WDATA, 1, 1);
        y.clock(10);
        found("WDATA in TAKE", y, 3, 3);
        // The WRITE of the clock before decides, not that of the DATA phase's own clocks.
        BusBridge z = withSlaves(1, 2);
        z.transfer(0, true, 5, 2, 0);
        z.transfer(0, false, 0, 2, 0);
        z.clock(3);
        z.turn(WDATA, 1, 1);
        z.clock(4);
        found("WDATA of a write with a read behind it", z, 4, 3, 5, 3);
    }

    private static void errorInTwoClocks() {
        BusBridge x = withSlaves(1, 0);
        x.turn(RESP, 1, 1);
        x.clock(4);
        found("the second clock without the first", x, 1, 4, 1, 5);
        BusBridge y = withSlaves(1, 0);
        y.turn(RESP, 1, 1);
        y.turn(READY, 1, 1);
        y.clock(4);
        found("the first clock without the second", y, 1, 5, 1, 6, 2, 4);
        BusBridge z = withSlaves(1, 0);
        z.turn(RESP, 4, 2);
        z.turn(READY, 1, 1);
        z.clock(4);
        found("both", z, 1, 5, 1, 6, 2, 5);
        BusBridge u = withSlaves(1, 0);
        u.turn(RESP, 1, 2);
        u.turn(READY, 1, 2);
        u.clock(5);
        found("the first clock twice", u, 1, 5, 1, 6, 2, 4, 2, 5, 2, 6, 3, 4);
    }

    private static void respAndReadyWithoutData() {
        BusBridge x = withSlaves(1, 0);
        x.turn(READY, 1, 2);
        x.clock(5);
        found("READY 0 without a DATA phase", x, 1, 6, 2, 6);
        // In clock 1 READY is hidden: no DATA phase is there in the clocks of the bridge's WAIT.
        BusBridge y = withSlaves(1, 0);
        y.transfer(0, false, 0, 2, 0);
        y.turn(READY, 1, 1);
        y.clock(10);
        found("READY 0 behind READY 0", y, 1, 6, 2, 6, 3, 6);
        // TRANS by hand in clock 1 makes one; that of 2 does not, as READY is 0 there.
        BusBridge z = withSlaves(1, 0);
        z.turn(TRANS, 3, 1);
        z.clock(10);
        found("TRANS 3 out of nothing", z, 1, 2);
        BusBridge u = withSlaves(1, 0);
        u.turn(TRANS, 1, 1);
        u.clock(1);
        u.turn(RESP, 1, 1);
        u.clock(5);
        found("TRANS 1 makes no DATA phase", u, 2, 4, 2, 5);
    }

    private static void readyLowForLong() {
        BusBridge x = withSlaves(1, 0);
        x.turn(READY, 1, 100);
        x.clock(100);
        check.due("findings(7) behind clock 99", x.findings(7), 0);
        x.clock(1);
        check.due("findings(7) behind clock 100", x.findings(7), 1);
        check.due("findings(6)", x.findings(6), 100);
        x.clock(5);
        check.due("findings(7)", x.findings(7), 1);
        // Four POSTED writes and one under way hold up a read by more than 200 clocks.
        BusBridge y = new BusBridge();
        y.slave(0, 28, 0, true);
        y.limit(60);
        y.depth(4);
        for (int t = 0; t < 5; t++) {
            y.transfer(0, true, t, 2, 0);
        }
        y.transfer(0, false, 0, 2, 0);
        y.finish(2000);
        check.due("findings(7) of 200 clocks and more", y.findings(7), 1);
        check.due("bridge(4)", y.bridge(4), 6);
        BusBridge z = withSlaves(1, 0);
        z.turn(READY, 1, 60);
        z.clock(61);
        z.turn(READY, 1, 60);
        z.clock(70);
        check.due("findings(7) of twice 60 clocks", z.findings(7), 0);
        check.due("findings(6)", z.findings(6), 120);
    }

    private static void selectOnce(String what, int slaves, int mask, int... pairs) {
        BusBridge x = withSlaves(slaves, 0);
        x.turn(SEL, mask, 1);
        x.clock(4);
        found(what, x, pairs);
    }

    private static void select() {
        selectOnce("SEL of a SLAVE", 2, 2, 2, 11);
        selectOnce("SEL of no SLAVE", 1, 2, 1, 8, 2, 11);
        selectOnce("SEL of two", 2, 3, 1, 8, 2, 11);
        selectOnce("SEL of all eight", 8, 255, 1, 8, 2, 11);
        selectOnce("SEL of the last of eight", 8, 128, 2, 11);
        selectOnce("SEL of the ninth", 8, 256, 1, 8, 2, 11);
        selectOnce("SEL's greatest bit", 8, Integer.MIN_VALUE, 1, 8, 2, 11);
        selectOnce("SEL without SLAVES", 0, 1, 1, 8, 2, 11);
    }

    private static void enable() {
        BusBridge x = withSlaves(1, 0);
        x.turn(ENABLE, 2, 1);
        x.clock(4);
        found("ENABLE without SEL", x, 1, 9, 1, 15, 2, 12);
        BusBridge y = withSlaves(1, 0);
        y.turn(SEL, 1, 1);
        y.turn(ENABLE, 1, 1);
        y.clock(4);
        found("ENABLE at once", y, 1, 10, 2, 12);
    }

    /** SEL for some clocks from clock 1 on, ENABLE for some from clock 2 on. */
    private static BusBridge access(int wait, int selected, int enabled) {
        BusBridge x = withSlaves(1, wait);
        x.turn(SEL, 1, selected);
        x.clock(1);
        if (enabled > 0) {
            x.turn(ENABLE, 1, enabled);
        }
        x.clock(6);
        return x;
    }

    private static void brokenOff() {
        found("an ACT by hand", access(0, 2, 1));
        found("SEL for two clocks, no ENABLE", access(0, 2, 0), 2, 11, 3, 11);
        found("over ahead of PREADY", access(1, 2, 1), 3, 12);
        found("ENABLE ends ahead of PREADY", access(1, 3, 1), 3, 12, 4, 11);
        found("over with PREADY", access(1, 3, 2));
    }

    private static BusBridge accessWith(int earlyWire, int earlyMask, int wire, int mask) {
        BusBridge x = withSlaves(2, 0);
        x.turn(SEL, 1, 2);
        x.turn(earlyWire, earlyMask, 2);
        x.clock(1);
        x.turn(ENABLE, 1, 1);
        x.turn(wire, mask, 1);
        x.clock(6);
        return x;
    }

    private static void actHeld() {
        found("PADDR is another one", accessWith(WDATA, 1, PADDR, 4), 2, 13);
        found("PWRITE is another one", accessWith(WDATA, 1, PWRITE, 1), 2, 13);
        found("PWDATA of a read", accessWith(WDATA, 1, PWDATA, 1));
        found("PWDATA of a write", accessWith(PWRITE, 1, PWDATA, 1), 2, 13);
        found("a write by hand", accessWith(PWRITE, 1, WDATA, 1));
    }

    private static void enableBehindReady() {
        found("ENABLE stays behind PREADY", access(0, 3, 2), 3, 14, 4, 12);
    }

    private static void aimed() {
        found("PADDR in its range", accessWith(PADDR, 31, WDATA, 1));
        found("PADDR behind its range", accessWith(PADDR, 32, WDATA, 1), 2, 15);
        found("PADDR in no range", accessWith(PADDR, -1, WDATA, 1), 2, 15);
    }

    private static void timeouts() {
        BusBridge x = new BusBridge();
        x.slave(0, 28, 0, true);
        x.limit(4);
        x.transfer(0, false, 0, 2, 0);
        x.clock(12);
        found("a TIMEOUT", x, 7, 12);
    }

    private static void sixtyKept() {
        BusBridge x = withSlaves(1, 0);
        x.turn(READY, 1, 70);
        x.clock(60);
        check.due("told(6)", x.told(6), 59);
        x.clock(1);
        check.due("told(6)", x.told(6), 60);
        x.clock(9);
        check.due("told(6)", x.told(6), 60);
        check.due("findings(0)", x.findings(0), 69);
        check.due("findings(6)", x.findings(6), 69);
        check.well("finding(59, 0)", x, x.finding(59, 0), 60);
        check.well("finding(59, 1)", x, x.finding(59, 1), 6);
        check.refused("finding(60, 0)", x, x.finding(60, 0), BusBridge.UNKNOWN);
    }

    private static void refusals() {
        BusBridge x = withSlaves(1, 0);
        x.turn(READY, 1, 1);
        x.clock(3);
        int[] noRules = {-1, 16, Integer.MAX_VALUE, Integer.MIN_VALUE};
        for (int rule : noRules) {
            check.refused("findings(" + rule + ")", x, x.findings(rule), BusBridge.OUTSIDE);
        }
        int[] none = {-1, 1, 60, Integer.MAX_VALUE, Integer.MIN_VALUE};
        for (int i : none) {
            check.refused("finding(" + i + ", 0)", x, x.finding(i, 0), BusBridge.UNKNOWN);
            check.refused("finding(" + i + ", 2)", x, x.finding(i, 2), BusBridge.UNKNOWN);
        }
        check.refused("finding(0, 2)", x, x.finding(0, 2), BusBridge.OUTSIDE);
        check.refused("finding(0, -1)", x, x.finding(0, -1), BusBridge.OUTSIDE);
        check.well("finding(0, 1)", x, x.finding(0, 1), 6);
    }
}
