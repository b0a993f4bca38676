/**
 * The ends of the MONITORS' rules (Terms 4; promises 15 and 16): of each rule what is just found and what is just not,
 * with the document's words above it.
 */
public final class EdgeMonitorTest {
    private static final Check check = new Check("EdgeMonitorTest");
    private static final int UNKNOWN = BusBridge.UNKNOWN, OUTSIDE = BusBridge.OUTSIDE;
    private static final int MIN = Integer.MIN_VALUE, MAX = Integer.MAX_VALUE;
    private static final int ADDR = 0, WRITE = 1, TRANS = 2, WDATA = 3, READY = 4, RESP = 5;
    private static final int SEL = 7, ENABLE = 8, PADDR = 9, PWRITE = 10, PWDATA = 11, PREADY = 12;
    private static final int NOWHERE = 1000;

    public static void main(String[] args) {
        clockZero();
        rule1();
        rule2();
        rule3();
        rule4();
        rule5();
        rule6();
        rule7();
        rule8();
        rule9();
        rule10();
        rule11();
        rule12();
        rule13();
        rule14();
        rule15();
        dataPhase();
        byTheirNumbers();
        sixtyKept();
        findingsReasons();
        findingReasons();
        check.close();
    }

    private static BusBridge withSlaves(int count, int wait) {
        BusBridge x = new BusBridge();
        for (int s = 0; s < count; s++) {
            x.slave(s * 32, s * 32 + 28, wait, false);
        }
        x.register(0, 0, 70);
        return x;
    }

    /** Wires turned by hand, rows of {the first clock, the wire, the mask, how many clocks}, then 30 clocks in all. */
    private static BusBridge byHand(BusBridge x, int[]... turns) {
        for (int clock = x.told(7); clock < 30; clock++) {
            for (int[] row : turns) {
                if (row[0] == clock + 1) {
                    x.turn(row[1], row[2], row[3]);
                }
            }
            x.clock(1);
        }
        return x;
    }

    private static int[] at(int clock, int wire, int mask, int clocks) {
        return new int[] {clock, wire, mask, clocks};
    }

    /** All FINDINGS, as pairs of a clock and a rule. */
    private static void found(String what, BusBridge x, int... pairs) {
        check.due(what + ": told(6)", x.told(6), pairs.length / 2);
        check.due(what + ": findings(0)", x.findings(0), pairs.length / 2);
        for (int i = 0; i < pairs.length / 2; i++) {
            check.well(what + ": finding(" + i + ", 0)", x, x.finding(i, 0), pairs[2 * i]);
            check.well(what + ": finding(" + i + ", 1)", x, x.finding(i, 1), pairs[2 * i + 1]);
        }
        for (int rule = 1; rule <= 15; rule++) {
            int count = 0;
            for (int i = 1; i < pairs.length; i += 2) {
                count += pairs[i] == rule ? 1 : 0;
            }
            check.well(what + ": findings(" + rule + ")", x, x.findings(rule), count);
        }
    }

    /** Reads of 0 and 4, WAIT 1: READY is 0 in clocks 2 to 4, 4 is in the ADDRESS phase in 2 to 5. */
    private static BusBridge twoReads() {
        BusBridge x = withSlaves(1, 1);
        x.transfer(0, false, 0, 2, 0);
        x.transfer(4, false, 0, 2, 0);
        return x;
    }

    /** A write of 5 to 0, WAIT 2: its DATA phase is in clocks 2 to 7, READY is 0 in 2 to 6. */
    private static BusBridge oneWrite() {
        BusBridge x = withSlaves(1, 2);
        x.transfer(0, true, 5, 2, 0);
        return x;
    }

    /** "(in clock 0 none: what asks V is not asked)"; a clock is judged as it goes by. */
    private static void clockZero() {
        BusBridge x = withSlaves(1, 0);
        x.transfer(0, false, 0, 3, 0);
        x.clock(1);
        check.due("findings(0) in clock 1", x.findings(0), 0);
        x.clock(1);
        check.due("findings(0) in clock 2", x.findings(0), 1);
        check.due("finding(0, 0)", x.finding(0, 0), 1);
        BusBridge y = withSlaves(1, 0);
        y.turn(READY, 1, 1);
        y.clock(1);
        check.due("findings(0): nothing is TURNED in clock 0", y.findings(0), 0);
        y.clock(1);
        check.due("findings(6)", y.findings(6), 1);
        check.due("finding(0, 0)", y.finding(0, 0), 1);
    }

    /** "1: V READY 0, V RESP 0, V TRANS 2 or 3: ADDR, WRITE or TRANS is another one." */
    private static void rule1() {
        found("two reads", byHand(twoReads()));
        found("ADDR", byHand(twoReads(), at(3, ADDR, 1, 1)), 3, 1, 4, 1);
        found("WRITE", byHand(twoReads(), at(3, WRITE, 2, 1)), 3, 1, 4, 1);
        found("TRANS 3", byHand(twoReads(), at(3, TRANS, 1, 1)), 3, 1, 4, 1);
        found("TRANS 1 as V is not asked", byHand(twoReads(), at(3, TRANS, 3, 1)), 3, 1);
        found("TRANS 6 as V is not asked", byHand(twoReads(), at(3, TRANS, 4, 1)), 3, 1);
        found("all three, once", byHand(twoReads(), at(3, ADDR, 1, 1), at(3, WRITE, 1, 1), at(3, TRANS, 1, 1)),
            3, 1, 4, 1);
        found("WDATA is not asked", byHand(twoReads(), at(3, WDATA, 1, 1)));
        found("V READY not 0 in the first clock", byHand(twoReads(), at(2, ADDR, 1, 1)), 3, 1);
        found("V READY not 0 behind the last clock", byHand(twoReads(), at(5, ADDR, 1, 1)), 5, 1);
        found("V RESP not 0", byHand(twoReads(), at(2, RESP, 1, 1)), 3, 4);
    }

    /** A read of 8, then one of KIND 3. */
    private static BusBridge pair(int address, boolean write, int gap) {
        BusBridge x = withSlaves(1, 0);
        x.transfer(8, false, 0, 2, 0);
        x.transfer(address, write, 0, 3, gap);
        return x;
    }

    /** "2: TRANS 3, V READY not 0: V TRANS is neither 2 nor 3, or ADDR is not V's and 4, or WRITE is another one." */
    private static void rule2() {
        found("the next word", byHand(pair(12, false, 0)));
        int[] others = {8, 4, 11, 13, 16};
        for (int address : others) {
            found("ADDRESS " + address, byHand(pair(address, false, 0)), 2, 2);
        }
        found("a write", byHand(pair(12, true, 0)), 2, 2);
        found("a write elsewhere, once", byHand(pair(16, true, 0)), 2, 2);
        found("V TRANS 0", byHand(pair(12, false, 1)), 5, 2);
        found("V TRANS 1", byHand(pair(12, false, 0), at(1, TRANS, 3, 1)), 2, 2);
        found("V TRANS 6", byHand(pair(12, false, 0), at(1, TRANS, 4, 1)), 2, 2);
        found("V TRANS 2 by hand", byHand(pair(12, false, 1), at(4, TRANS, 2, 1)));
        BusBridge x = pair(12, false, 0);
        x.transfer(16, false, 0, 3, 0);
        x.transfer(20, false, 0, 3, 0);
        found("V TRANS 3", byHand(x));
        BusBridge y = withSlaves(1, 0);
        y.transfer(4, false, 0, 3, 0);
        found("the first of all", byHand(y), 1, 2);
        found("V READY 0", byHand(twoReads(), at(3, TRANS, 1, 2)), 3, 1, 5, 1);
    }

    /** "3: D, DW, V READY 0: WDATA is another one." */
    private static void rule3() {
        found("a write", byHand(oneWrite()));
        found("WDATA", byHand(oneWrite(), at(4, WDATA, 1, 1)), 4, 3, 5, 3);
        found("V READY not 0 in the first clock", byHand(oneWrite(), at(2, WDATA, 1, 1)), 3, 3);
        found("V READY not 0 behind the last clock", byHand(oneWrite(), at(7, WDATA, 1, 1)), 7, 3);
        found("without DW", byHand(twoReads(), at(3, WDATA, 1, 1)));
        found("without D", byHand(withSlaves(1, 0), at(1, READY, 1, 3), at(2, WDATA, 1, 1)), 1, 6, 2, 6, 3, 6);
        BusBridge x = withSlaves(1, 2);
        x.transfer(0, false, 0, 2, 0);
        found("WRITE 2 is a write", byHand(x, at(1, WRITE, 2, 1), at(4, WDATA, 1, 1)), 4, 3, 5, 3);
        // The WRITE of later clocks is that of the next ADDRESS phase.
        BusBridge y = oneWrite();
        y.transfer(4, false, 0, 2, 0);
        found("a read behind it", byHand(y, at(4, WDATA, 1, 1)), 4, 3, 5, 3);
        BusBridge z = withSlaves(1, 2);
        z.transfer(4, false, 0, 2, 0);
        z.transfer(0, true, 0, 2, 0);
        found("a write behind a read", byHand(z, at(4, WDATA, 1, 1)));
    }

    /** "4: RESP and READY not 0 without V RESP not 0 and V READY 0; or behind these without them." */
    private static void rule4() {
        BusBridge x = withSlaves(1, 0);
        x.transfer(NOWHERE, false, 0, 2, 0);
        found("an ERROR", byHand(x));
        found("the second alone", byHand(withSlaves(1, 0), at(1, RESP, 1, 1)), 1, 4, 1, 5);
        found("the second twice", byHand(withSlaves(1, 0), at(1, RESP, 1, 2)), 1, 4, 1, 5, 2, 4, 2, 5);
        found("the first alone", byHand(withSlaves(1, 0), at(1, RESP, 1, 1), at(1, READY, 1, 1)), 1, 5, 1, 6, 2, 4);
        found("both", byHand(withSlaves(1, 0), at(1, RESP, MIN, 2), at(1, READY, 1, 1)), 1, 5, 1, 6, 2, 5);
        found("the first twice", byHand(withSlaves(1, 0), at(1, RESP, 1, 2), at(1, READY, 1, 2)),
            1, 5, 1, 6, 2, 4, 2, 5, 2, 6, 3, 4);
        found("the first, then READY 0 alone", byHand(withSlaves(1, 0), at(1, RESP, 1, 1), at(1, READY, 1, 2)),
            1, 5, 1, 6, 2, 4, 2, 6);
        found("READY 0 alone, then the second", byHand(withSlaves(1, 0), at(2, RESP, 1, 1), at(1, READY, 1, 1)),
            1, 6, 2, 4, 2, 5);
        found("READY 0 alone", byHand(withSlaves(1, 0), at(1, READY, 1, 1)), 1, 6);
        found("READY 2 is not 0", byHand(withSlaves(1, 0), at(1, RESP, 1, 1), at(1, READY, 3, 1)), 1, 4, 1, 5);
    }

    private static BusBridge oneRead() {
        BusBridge x = withSlaves(1, 0);
        x.transfer(0, false, 0, 2, 0);
        return x;
    }

    /** "5: RESP not 0 without D." The DATA phase of oneRead() is in clocks 2 to 4. */
    private static void rule5() {
        found("ahead of D", byHand(oneRead(), at(1, RESP, 1, 1)), 1, 4, 1, 5);
        found("in D's first clock", byHand(oneRead(), at(2, RESP, 1, 1)), 3, 4);
        found("in D's last clock", byHand(oneRead(), at(4, RESP, 1, 1)), 4, 4);
        found("behind D", byHand(oneRead(), at(5, RESP, 1, 1)), 5, 4, 5, 5);
        found("RESP 8", byHand(oneRead(), at(5, RESP, 8, 1)), 5, 4, 5, 5);
    }

    /** "6: READY 0 without D." */
    private static void rule6() {
        found("in D", byHand(oneRead()));
        found("in D's last clock, which is so prolonged", byHand(oneRead(), at(4, READY, 1, 1)));
        found("behind D", byHand(oneRead(), at(5, READY, 1, 1)), 5, 6);
        // READY 0 in the ADDRESS phase: no DATA phase follows, though the bridge has its CASE.
        found("ahead of D", byHand(oneRead(), at(1, READY, 1, 1)), 1, 6, 2, 6, 3, 6);
    }

    /** "7: READY 0 for the 100th clock in a row." */
    private static void rule7() {
        BusBridge x = withSlaves(1, 0);
        x.turn(READY, 1, 99);
        x.clock(200);
        check.due("findings(7) of 99 clocks", x.findings(7), 0);
        check.due("findings(6) of 99 clocks", x.findings(6), 99);
        x.reset();
        x.turn(READY, 1, 100);
        x.clock(100);
        check.due("findings(7) ahead of the 100th", x.findings(7), 0);
        x.clock(1);
        check.due("findings(7) behind the 100th", x.findings(7), 1);
        x.turn(READY, 1, 100);
        x.clock(100);
        check.due("findings(7) ahead of the 100th of a new row", x.findings(7), 1);
        x.clock(1);
        check.due("findings(7) behind the 100th of a new row", x.findings(7), 2);
        x.reset();
        x.turn(READY, 1, 99);
        x.clock(100);
        x.turn(READY, 1, 99);
        x.clock(100);
        check.due("findings(7) of 99 clocks twice", x.findings(7), 0);
        x.reset();
        x.turn(READY, 1, 99);
        x.clock(100);
        check.due("findings(7) of 99 clocks on each side of reset()", x.findings(7), 0);
        // READY 0 by LIMIT: two ACTS of 60 clocks behind each other, more than 100 clocks in a row.
        BusBridge y = new BusBridge();
        y.slave(0, 28, 0, true);
        y.limit(60);
        y.depth(1);
        y.transfer(0, true, 0, 2, 0);
        y.transfer(0, false, 0, 2, 0);
        // The read is in WAIT from clock 3 on: the 100th clock is 102.
        y.clock(102);
        check.due("findings(7) in clock 102", y.findings(7), 0);
        y.clock(1);
        check.due("findings(7) in clock 103", y.findings(7), 1);
        check.due("finding(1, 0): behind the TIMEOUT's rule 12", y.finding(1, 0), 102);
        y.finish(100);
        check.due("findings(7) in the end", y.findings(7), 1);
    }

    /** "8: SEL has several bits, or one of no SLAVE." */
    private static void rule8() {
        for (int count = 0; count <= 8; count++) {
            for (int bit = 0; bit < 32; bit++) {
                BusBridge x = withSlaves(count, 0);
                x.turn(SEL, 1 << bit, 1);
                x.clock(3);
                check.due("findings(8) of " + count + " SLAVES by bit " + bit, x.findings(8), bit < count ? 0 : 1);
            }
        }
        int[] several = {3, 129, 255, 6, -1, MIN | 1, MAX};
        for (int mask : several) {
            BusBridge x = byHand(withSlaves(8, 0), at(1, SEL, mask, 1));
            found("SEL " + mask, x, 1, 8, 2, 11);
        }
    }

    /** "9: ENABLE not 0, SEL 0." */
    private static void rule9() {
        int[] masks = {1, 2, -1, MIN};
        for (int mask : masks) {
            found("ENABLE " + mask, byHand(withSlaves(1, 0), at(1, ENABLE, mask, 1)), 1, 9, 1, 15, 2, 12);
        }
        found("ENABLE with SEL", byHand(withSlaves(1, 0), at(1, SEL, 1, 2), at(2, ENABLE, 1, 1)));
    }

    /** A read of 0, with two SLAVES: SETUP in clock 2, ACCESS from 3 to 3 and WAIT. */
    private static BusBridge readOfTwo(int wait) {
        BusBridge x = withSlaves(2, wait);
        x.transfer(0, false, 0, 2, 0);
        return x;
    }

    /** "10: ENABLE not 0, V SEL is another one." */
    private static void rule10() {
        found("SEL and ENABLE at once", byHand(withSlaves(1, 0), at(1, SEL, 1, 1), at(1, ENABLE, 1, 1)),
            1, 10, 2, 12);
        found("SEL no more", byHand(withSlaves(1, 0), at(1, SEL, 1, 1), at(2, ENABLE, 1, 1)),
            2, 9, 2, 10, 2, 11, 2, 15);
        found("another SLAVE in ACCESS", byHand(readOfTwo(1), at(3, SEL, 3, 1)), 3, 10, 3, 11, 3, 15, 4, 10, 4, 12);
        found("a bit more in ACCESS", byHand(readOfTwo(1), at(3, SEL, 2, 1)), 3, 8, 3, 10, 3, 11, 4, 10, 4, 12);
        found("no bit in ACCESS", byHand(readOfTwo(1), at(3, SEL, 1, 1)),
            3, 9, 3, 10, 3, 11, 3, 15, 4, 10, 4, 12);
    }

    /** "11: V SEL not 0, V ENABLE 0: SEL is another one, or ENABLE 0." */
    private static void rule11() {
        found("both, once", byHand(withSlaves(1, 0), at(1, SEL, 1, 1)), 2, 11);
        found("ENABLE 0", byHand(withSlaves(1, 0), at(1, SEL, 1, 2)), 2, 11, 3, 11);
        found("neither", byHand(withSlaves(1, 0), at(1, SEL, 1, 2), at(2, ENABLE, MIN, 1)));
        found("V ENABLE not 0", byHand(withSlaves(1, 1), at(1, SEL, 1, 3), at(2, ENABLE, 1, 2)));
    }

    /** "12: V ENABLE not 0, V PREADY 0: SEL is another one, or ENABLE 0." */
    private static void rule12() {
        found("both, once", byHand(withSlaves(1, 1), at(1, SEL, 1, 2), at(2, ENABLE, 1, 1)), 3, 12);
        found("ENABLE 0", byHand(withSlaves(1, 1), at(1, SEL, 1, 3), at(2, ENABLE, 1, 1)), 3, 12, 4, 11);
        found("SEL is another one", byHand(readOfTwo(2), at(4, SEL, 3, 1)), 4, 10, 4, 12, 4, 15, 5, 10, 5, 12);
        found("neither", byHand(withSlaves(1, 1), at(1, SEL, 1, 3), at(2, ENABLE, 1, 2)));
        found("V PREADY 2",
            byHand(withSlaves(1, 1), at(1, SEL, 1, 2), at(2, ENABLE, 1, 1), at(2, PREADY, 2, 1)));
        BusBridge x = new BusBridge();
        x.slave(0, 0, 0, true);
        x.limit(4);
        x.transfer(0, false, 0, 2, 0);
        found("a TIMEOUT", byHand(x), 7, 12);
    }

    /** SEL of SLAVE 0 in clocks 1 and 2, ENABLE in 2. */
    private static BusBridge access(int[]... more) {
        int[][] turns = new int[more.length + 2][];
        turns[0] = at(1, SEL, 1, 2);
        turns[1] = at(2, ENABLE, 1, 1);
        System.arraycopy(more, 0, turns, 2, more.length);
        return byHand(withSlaves(2, 0), turns);
    }

    /** "13: ENABLE not 0, SEL not 0, V SEL the same: PADDR, PWRITE is another one, or, PWRITE not being 0, PWDATA." */
    private static void rule13() {
        found("an ACT by hand", access());
        found("PADDR", access(at(2, PADDR, 1, 1)), 2, 13);
        found("PWRITE", access(at(2, PWRITE, 1, 1)), 2, 13);
        found("PWRITE no more", access(at(1, PWRITE, 1, 1)), 2, 13);
        found("PWRITE 2 behind 1, 1 behind 2", byHand(oneWrite(), at(4, PWRITE, 3, 1)), 4, 13, 5, 13);
        found("PWDATA of a read", access(at(2, PWDATA, 1, 1)));
        found("PWDATA of a write", access(at(1, PWRITE, 1, 2), at(2, PWDATA, 1, 1)), 2, 13);
        found("PWDATA of a write by 2", access(at(1, PWRITE, 2, 2), at(2, PWDATA, 1, 1)), 2, 13);
        found("PWDATA the same", access(at(1, PWRITE, 1, 2), at(1, PWDATA, 1, 2)));
        found("all, once", access(at(2, PADDR, 1, 1), at(2, PWRITE, 1, 1), at(2, PWDATA, 1, 1)), 2, 13);
        found("V SEL not the same",
            byHand(withSlaves(1, 0), at(1, SEL, 1, 1), at(1, ENABLE, 1, 1), at(1, PADDR, 4, 1)), 1, 10, 2, 12);
        found("SEL 0", byHand(withSlaves(1, 0), at(1, ENABLE, 1, 2), at(2, PADDR, 4, 1)),
            1, 9, 1, 15, 2, 9, 2, 15, 3, 12);
        found("ENABLE 0", byHand(withSlaves(1, 0), at(1, SEL, 1, 2), at(2, PADDR, 4, 1)), 2, 11, 3, 11);
    }

    /** "14: V ENABLE and V PREADY not 0: ENABLE not 0." */
    private static void rule14() {
        found("ENABLE stays", byHand(withSlaves(1, 0), at(1, SEL, 1, 3), at(2, ENABLE, 1, 2)), 3, 14, 4, 12);
        found("ENABLE stays, SEL does not", byHand(withSlaves(1, 0), at(1, SEL, 1, 2), at(2, ENABLE, 1, 2)),
            3, 9, 3, 10, 3, 14, 3, 15, 4, 12);
        found("V PREADY 0", byHand(withSlaves(1, 1), at(1, SEL, 1, 3), at(2, ENABLE, 1, 2)));
        found("V PREADY 2",
            byHand(withSlaves(1, 9), at(1, SEL, 1, 3), at(2, ENABLE, 1, 2), at(2, PREADY, 2, 1)), 3, 14, 4, 12);
        found("V ENABLE 0",
            byHand(withSlaves(1, 0), at(1, SEL, 1, 2), at(1, PREADY, 1, 1), at(2, ENABLE, 1, 1)));
    }

    /** "15: ENABLE not 0: PADDR lies in no range of a SLAVE whose bit SEL has." */
    private static void rule15() {
        int[] inside = {0, 28, 31};
        for (int address : inside) {
            found("PADDR " + address, access(at(1, PADDR, address, 2)));
        }
        int[] beyond = {32, 63, 64, 65536, -1, MIN, MAX};
        for (int address : beyond) {
            found("PADDR " + address, access(at(1, PADDR, address, 2)), 2, 15);
        }
        found("ENABLE 0", access(at(1, PADDR, 32, 1)), 2, 13);
        found("one of two SLAVES",
            byHand(withSlaves(2, 0), at(1, SEL, 3, 2), at(2, ENABLE, 1, 1), at(1, PADDR, 32, 2)), 1, 8, 2, 8);
        found("neither of two SLAVES",
            byHand(withSlaves(2, 0), at(1, SEL, 3, 2), at(2, ENABLE, 1, 1), at(1, PADDR, 64, 2)),
            1, 8, 2, 8, 2, 15);
        found("the bit of no SLAVE", byHand(withSlaves(1, 0), at(1, SEL, 2, 2), at(2, ENABLE, 1, 1)),
            1, 8, 2, 8, 2, 15, 3, 12);
        found("SEL 0", byHand(withSlaves(1, 0), at(1, ENABLE, 1, 1)), 1, 9, 1, 15, 2, 12);
    }

    /** "D whether a DATA phase is there (READY not 0 in the clock before, and TRANS 2 or 3; with READY 0 as it was)". */
    private static void dataPhase() {
        int[] none = {1, 4, 6, 7, MIN | 2, -1};
        for (int mask : none) {
            found("TRANS " + mask, byHand(withSlaves(1, 0), at(1, TRANS, mask, 1), at(2, READY, 1, 1)), 2, 6);
        }
        found("TRANS 2", byHand(withSlaves(1, 0), at(1, TRANS, 2, 1)));
        found("TRANS 3", byHand(withSlaves(1, 0), at(1, TRANS, 3, 1)), 1, 2);
        found("READY 2", byHand(oneRead(), at(1, READY, 3, 1)));
        found("as it was", byHand(oneWrite()));
        found("one behind the other", byHand(twoReads()));
    }

    /** "FINDINGS by rules, in each clock by their numbers, each at most once". */
    private static void byTheirNumbers() {
        found("many at once",
            byHand(withSlaves(1, 0), at(1, ENABLE, 1, 1), at(1, PADDR, 64, 1), at(1, SEL, 3, 1), at(1, RESP, 1, 1),
                at(1, READY, 1, 1)),
            1, 5, 1, 6, 1, 8, 1, 10, 1, 15, 2, 4, 2, 12);
        found("with TRANS 3",
            byHand(withSlaves(1, 0), at(1, TRANS, 3, 1), at(1, RESP, 1, 1), at(1, ENABLE, 1, 1)),
            1, 2, 1, 4, 1, 5, 1, 9, 1, 15, 2, 12);
    }

    /** finding: "(60 are kept)"; findings tells how many there were. */
    private static void sixtyKept() {
        BusBridge x = withSlaves(1, 0);
        x.turn(READY, 1, 100);
        x.clock(60);
        check.due("told(6) of 59", x.told(6), 59);
        check.refused("finding(59, 0)", x, x.finding(59, 0), UNKNOWN);
        x.clock(1);
        check.due("told(6) of 60", x.told(6), 60);
        check.well("finding(59, 0)", x, x.finding(59, 0), 60);
        x.clock(1);
        check.due("told(6) of 61", x.told(6), 60);
        check.due("findings(0) of 61", x.findings(0), 61);
        check.due("findings(6) of 61", x.findings(6), 61);
        check.refused("finding(60, 0)", x, x.finding(60, 0), UNKNOWN);
        x.clock(50);
        check.well("finding(0, 0): the first ones are kept", x, x.finding(0, 0), 1);
        check.well("finding(59, 0)", x, x.finding(59, 0), 60);
        check.well("finding(59, 1)", x, x.finding(59, 1), 6);
        check.due("findings(0): 100 of rule 6, one of rule 7", x.findings(0), 101);
        check.due("findings(7)", x.findings(7), 1);
        x.reset();
        check.due("findings(0) behind reset()", x.findings(0), 0);
        check.due("findings(6) behind reset()", x.findings(6), 0);
        check.refused("finding(0, 0) behind reset()", x, x.finding(0, 0), UNKNOWN);
    }

    /** findings: "a rule (1 to 15; 0: of all). OUTSIDE." */
    private static void findingsReasons() {
        BusBridge x = byHand(withSlaves(1, 0), at(1, ENABLE, 1, 1));
        int[] outside = {-1, 16, MIN, MAX};
        for (int rule : outside) {
            check.refused("findings(" + rule + ")", x, x.findings(rule), OUTSIDE);
        }
        check.well("findings(0)", x, x.findings(0), 3);
        check.well("findings(1)", x, x.findings(1), 0);
        check.well("findings(15)", x, x.findings(15), 1);
    }

    /** finding: "UNKNOWN; OUTSIDE", the first that fits. */
    private static void findingReasons() {
        BusBridge x = withSlaves(1, 0);
        check.refused("finding(0, 0) of nothing", x, x.finding(0, 0), UNKNOWN);
        byHand(x, at(1, ENABLE, 1, 1));
        int[] unknown = {-1, 3, 59, 60, MIN, MAX};
        for (int i : unknown) {
            check.refused("finding(" + i + ", 0)", x, x.finding(i, 0), UNKNOWN);
            check.refused("finding(" + i + ", 2)", x, x.finding(i, 2), UNKNOWN);
            check.refused("finding(" + i + ", -1)", x, x.finding(i, -1), UNKNOWN);
        }
        int[] outside = {-1, 2, MIN, MAX};
        for (int what : outside) {
            check.refused("finding(2, " + what + ")", x, x.finding(2, what), OUTSIDE);
        }
        check.well("finding(2, 0)", x, x.finding(2, 0), 2);
        check.well("finding(2, 1)", x, x.finding(2, 1), 12);
    }
}
