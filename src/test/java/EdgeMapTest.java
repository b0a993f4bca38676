/**
 * The ends of THE MAP (Terms 1; promises 1 to 6, 17, 18): one method for each sentence that names an end, with the
 * document's words above it.
 */
public final class EdgeMapTest {
    private static final Check check = new Check("EdgeMapTest");
    private static final int OUTSIDE = BusBridge.OUTSIDE, STATE = BusBridge.STATE, FULL = BusBridge.FULL;
    private static final int NO = BusBridge.NO, NONE = BusBridge.NONE, UNKNOWN = BusBridge.UNKNOWN;
    private static final int MIN = Integer.MIN_VALUE, MAX = Integer.MAX_VALUE;
    private static final int DONE = 3, ERROR = 4;
    private static final int PLAIN = 0, CONSTANT = 1, SET = 2, CLEARED = 3, COUNTER = 4, ONCE = 5, AWAY = 6, GUARD = 7;

    public static void main(String[] args) {
        newObject();
        addresses();
        words();
        lastBelowFirst();
        eightSlaves();
        rangesThatDoNotMeet();
        rangesMeetAnyOne();
        waits();
        broken();
        slaveReasons();
        registers();
        registersOfRanges();
        oneAtAWord();
        kinds();
        guardsAtFirst();
        registerReasons();
        plainAndConstant();
        setAndCleared();
        counters();
        counterWritten();
        once();
        away();
        guardTakes();
        guardsOthers();
        guardsOfOneSlave();
        errorsChangeNothing();
        noRegister();
        noWords();
        lastByte();
        depths();
        limits();
        aheadOfTheFirstClock();
        clockIsZeroAgain();
        resetAnswers();
        resetLeavesTheMap();
        resetInAnyClock();
        values();
        ranges();
        check.close();
    }

    private static BusBridge withRegister(int kind, int value) {
        BusBridge x = new BusBridge();
        x.slave(0, 28, 0, false);
        x.register(8, kind, value);
        return x;
    }

    private static void slaveIs(BusBridge x, int first, int last, int wait, int due) {
        String call = "slave(" + first + ", " + last + ", " + wait + ", false)";
        check.refused(call, x, x.slave(first, last, wait, false), due, Math.min(due, 0));
    }

    private static void registerIs(BusBridge x, int word, int kind, int value, int due) {
        String call = "register(" + word + ", " + kind + ", " + value + ")";
        check.refused(call, x, x.register(word, kind, value), due, Math.min(due, 0));
    }

    private static void write(BusBridge x, int address, int data, int how) {
        int t = x.transfer(address, true, data, 2, 0);
        x.finish(100);
        check.due("how the write of " + data + " at " + address + " is", x.result(t, 0), how);
    }

    private static void read(BusBridge x, int address, int gives) {
        int t = x.transfer(address, false, 0, 2, 0);
        x.finish(100);
        check.due("how the read at " + address + " is", x.result(t, 0), DONE);
        check.due("what the read at " + address + " gives", x.result(t, 1), gives);
    }

    /** "No SLAVES; the clock is 0." */
    private static void newObject() {
        BusBridge x = new BusBridge();
        check.due("status() ahead of all calls", x.status(), 0);
        for (int what = 0; what < 8; what++) {
            check.well("told(" + what + ")", x, x.told(what), 0);
        }
        for (int what = 0; what < 6; what++) {
            check.well("bridge(" + what + ")", x, x.bridge(what), 0);
        }
        check.well("reset()", x, x.reset(), 0);
        check.well("depth(0)", x, x.depth(0), 0);
        check.well("limit(32)", x, x.limit(32), 32);
        slaveIs(x, 0, 65532, 0, 0);
    }

    /** "ADDRESSES are 0 to 65535". */
    private static void addresses() {
        BusBridge x = new BusBridge();
        slaveIs(x, 0, 65532, 0, 0);
        x.register(65532, PLAIN, 9);
        int[][] rows = {{0, 0}, {65535, 0}, {-1, NONE}, {65536, NONE}, {MIN, NONE}, {MAX, NONE}};
        for (int[] row : rows) {
            check.well("decode(" + row[0] + ")", x, x.decode(row[0]), row[1]);
        }
        read(x, 65532, 9);
        read(x, 65535, 0);
        write(x, 65535, 1, ERROR);
        check.due("bridge(5): each one reached the SLAVE", x.bridge(5), 3);
        check.due("log(2, 1)", x.log(2, 1), 65535);
        x.reset();
        x.turn(0, 65536, 1);
        x.transfer(0, false, 0, 2, 0);
        x.clock(2);
        check.due("bridge(0): 65536 by hand is in no range", x.bridge(0), 4);
    }

    /** "words lie at multiples of 4"; "OUTSIDE: first, last are no words of 0 to 65532". */
    private static void words() {
        for (int off = 1; off < 4; off++) {
            BusBridge x = new BusBridge();
            slaveIs(x, off, 64, 0, OUTSIDE);
            slaveIs(x, 0, off, 0, OUTSIDE);
            slaveIs(x, off, off, 0, OUTSIDE);
            slaveIs(x, -off, 64, 0, OUTSIDE);
            slaveIs(x, 65532, 65532 + off, 0, OUTSIDE);
            slaveIs(x, 65532 + off, 65532 + off, 0, OUTSIDE);
            check.due("told(0)", x.told(0), 0);
        }
        BusBridge x = new BusBridge();
        slaveIs(x, -4, 0, 0, OUTSIDE);
        slaveIs(x, -4, -4, 0, OUTSIDE);
        slaveIs(x, 0, 65536, 0, OUTSIDE);
        slaveIs(x, 65536, 65536, 0, OUTSIDE);
        slaveIs(x, MIN, MIN, 0, OUTSIDE);
        slaveIs(x, MIN, 0, 0, OUTSIDE);
        slaveIs(x, 0, MAX - 3, 0, OUTSIDE);
        slaveIs(x, 0, MIN, 0, OUTSIDE);
        slaveIs(x, 65532, 65532, 0, 0);
        slaveIs(x, 0, 0, 0, 1);
        slaveIs(x, 4, 65528, 0, 2);
    }

    /** "last is below first". */
    private static void lastBelowFirst() {
        BusBridge x = new BusBridge();
        slaveIs(x, 8, 4, 0, OUTSIDE);
        slaveIs(x, 65532, 0, 0, OUTSIDE);
        slaveIs(x, 8, 8, 0, 0);
        check.due("decode(7)", x.decode(7), NONE);
        check.due("decode(8)", x.decode(8), 0);
        check.due("decode(11)", x.decode(11), 0);
        check.due("decode(12)", x.decode(12), NONE);
    }

    /** "SLAVES, 8 at most, numbered from 0 on". */
    private static void eightSlaves() {
        BusBridge x = new BusBridge();
        for (int s = 0; s < 8; s++) {
            check.due("told(0)", x.told(0), s);
            slaveIs(x, s * 16, s * 16, 0, s);
        }
        slaveIs(x, 200, 200, 0, FULL);
        slaveIs(x, 200, 200, 0, FULL);
        check.due("told(0)", x.told(0), 8);
        check.due("decode(200)", x.decode(200), NONE);
        check.due("decode(112)", x.decode(112), 7);
        x.clock(3);
        x.reset();
        slaveIs(x, 200, 200, 0, FULL);
        read(x, 112, 0);
        check.due("log(0, 0): the eighth SLAVE", x.log(0, 0), 7);
    }

    /** "ranges that do not meet"; "NO: the range meets another one". */
    private static void rangesThatDoNotMeet() {
        int[][] meeting = {{16, 24}, {12, 16}, {24, 28}, {20, 20}, {0, 100}, {16, 16}, {24, 24}, {0, 24}, {16, 65532}};
        for (int[] row : meeting) {
            BusBridge x = new BusBridge();
            x.slave(16, 24, 0, false);
            slaveIs(x, row[0], row[1], 0, NO);
            check.due("told(0)", x.told(0), 1);
        }
        BusBridge x = new BusBridge();
        x.slave(16, 24, 0, false);
        slaveIs(x, 0, 12, 0, 1);
        slaveIs(x, 32, 32, 0, 2);
        slaveIs(x, 28, 28, 0, 3);
        int[] owners = {1, 0, 3, 2};
        for (int i = 0; i < 4; i++) {
            int last = new int[] {15, 27, 31, 35}[i];
            check.due("decode(" + last + ")", x.decode(last), owners[i]);
            check.due("decode(" + (last - 3) + ")", x.decode(last - 3), owners[i]);
        }
    }

    private static void rangesMeetAnyOne() {
        BusBridge x = new BusBridge();
        for (int s = 0; s < 7; s++) {
            x.slave(s * 16, s * 16 + 4, 0, false);
        }
        for (int s = 0; s < 7; s++) {
            slaveIs(x, s * 16 + 4, s * 16 + 8, 0, NO);
        }
        slaveIs(x, 104, 104, 0, 7);
    }

    /** "a WAIT (0 to 15)": a read told in clock 0 is over in clock 3 and WAIT. */
    private static void waits() {
        BusBridge x = new BusBridge();
        int[] wrong = {-1, 16, MIN, MAX};
        for (int wait : wrong) {
            slaveIs(x, 0, 0, wait, OUTSIDE);
        }
        int[] right = {0, 1, 14, 15};
        for (int wait : right) {
            BusBridge y = new BusBridge();
            slaveIs(y, 0, 0, wait, 0);
            y.transfer(0, false, 0, 2, 0);
            y.finish(100);
            check.due("log(0, 5) of WAIT " + wait, y.log(0, 5), 3 + wait);
            check.due("log(0, 6) of WAIT " + wait, y.log(0, 6), 1);
        }
    }

    /** "and may be BROKEN": then no PREADY ever comes, whatever its WAIT. */
    private static void broken() {
        for (int wait = 0; wait < 2; wait++) {
            BusBridge x = new BusBridge();
            check.well("slave(0, 0, " + wait + ", true)", x, x.slave(0, 0, wait, true), 0);
            x.register(0, AWAY, 5);
            x.limit(60);
            x.transfer(0, false, 0, 2, 0);
            x.clock(62);
            check.due("bridge(1) in clock 62", x.bridge(1), 2);
            x.finish(100);
            check.due("log(0, 6)", x.log(0, 6), 3);
            check.due("value(0)", x.value(0), 5);
        }
    }

    /** "The first of these that fits" of slave: OUTSIDE, STATE, FULL, NO, each pair of them. */
    private static void slaveReasons() {
        BusBridge x = new BusBridge();
        x.slave(0, 0, 0, false);
        slaveIs(x, 0, 0, 16, OUTSIDE);
        slaveIs(x, 0, 2, 0, OUTSIDE);
        for (int s = 1; s < 8; s++) {
            x.slave(s * 8, s * 8, 0, false);
        }
        slaveIs(x, 100, 100, 16, OUTSIDE);
        slaveIs(x, 0, 0, 0, FULL);
        x.clock(1);
        slaveIs(x, 100, 100, -1, OUTSIDE);
        slaveIs(x, 100, 96, 0, OUTSIDE);
        slaveIs(x, 100, 100, 0, STATE);
        slaveIs(x, 0, 0, 0, STATE);
        BusBridge y = new BusBridge();
        y.slave(0, 0, 0, false);
        y.clock(1);
        slaveIs(y, 0, 0, 0, STATE);
        slaveIs(y, 4, 4, 0, STATE);
        check.due("told(0)", y.told(0), 1);
    }

    /** "REGISTERS, 48 in all at most"; "how many there are". */
    private static void registers() {
        BusBridge x = new BusBridge();
        x.slave(0, 96, 0, false);
        x.slave(100, 65532, 0, false);
        for (int r = 0; r < 48; r++) {
            check.due("told(1)", x.told(1), r);
            registerIs(x, r * 8, r % 7, r - 20, r + 1);
        }
        registerIs(x, 4, PLAIN, 0, FULL);
        registerIs(x, 65532, PLAIN, 0, FULL);
        check.due("told(1)", x.told(1), 48);
        check.refused("value(4)", x, x.value(4), 0, UNKNOWN);
        for (int r = 0; r < 48; r++) {
            check.well("value(" + r * 8 + ")", x, x.value(r * 8), r - 20);
        }
        x.reset();
        registerIs(x, 4, PLAIN, 0, FULL);
        write(x, 47 * 8, 1, DONE);
        write(x, 47 * 8, 2, ERROR);
        check.due("value of the last one, a ONCE", x.value(47 * 8), 1);
    }

    /** "lie at words of SLAVES' ranges"; "OUTSIDE: the word"; "NO: no SLAVE's range has it". */
    private static void registersOfRanges() {
        BusBridge x = new BusBridge();
        registerIs(x, 0, PLAIN, 0, NO);
        x.slave(16, 24, 0, false);
        x.slave(65532, 65532, 0, false);
        int[] outside = {-4, -1, 17, 18, 19, 25, 27, 65533, 65535, 65536, 65540, MIN, MAX, MAX - 3};
        for (int word : outside) {
            registerIs(x, word, PLAIN, 0, OUTSIDE);
        }
        int[] nowhere = {0, 12, 28, 65528};
        for (int word : nowhere) {
            registerIs(x, word, PLAIN, 0, NO);
        }
        check.due("told(1)", x.told(1), 0);
        registerIs(x, 16, PLAIN, 1, 1);
        registerIs(x, 24, PLAIN, 2, 2);
        registerIs(x, 65532, PLAIN, 3, 3);
    }

    /** "one at a word"; "NO: .. or there is one". */
    private static void oneAtAWord() {
        BusBridge x = withRegister(PLAIN, 5);
        for (int kind = 0; kind < 8; kind++) {
            registerIs(x, 8, kind, 1, NO);
        }
        check.due("told(1)", x.told(1), 1);
        check.due("value(8)", x.value(8), 5);
        registerIs(x, 12, PLAIN, 5, 2);
        registerIs(x, 12, PLAIN, 5, NO);
        write(x, 8, 6, DONE);
        read(x, 8, 6);
    }

    /** "of a KIND" 0 to 7, "with a value at first (an int)". */
    private static void kinds() {
        int[] wrong = {-1, 8, MIN, MAX};
        for (int kind : wrong) {
            BusBridge x = new BusBridge();
            x.slave(0, 28, 0, false);
            registerIs(x, 8, kind, 0, OUTSIDE);
            check.due("told(1)", x.told(1), 0);
        }
        int[] values = {0, 1, 2, -1, MIN, MAX};
        for (int kind = 0; kind < 7; kind++) {
            for (int value : values) {
                BusBridge x = new BusBridge();
                x.slave(0, 28, 0, false);
                registerIs(x, 8, kind, value, 1);
                check.well("value(8)", x, x.value(8), value);
            }
        }
    }

    /** "(of 7 also a value not 0, 1)". */
    private static void guardsAtFirst() {
        int[] wrong = {2, -1, 3, MIN, MAX};
        BusBridge x = new BusBridge();
        x.slave(0, 28, 0, false);
        for (int value : wrong) {
            registerIs(x, 8, GUARD, value, OUTSIDE);
        }
        registerIs(x, 8, GUARD, 0, 1);
        registerIs(x, 12, GUARD, 1, 2);
        check.due("value(8)", x.value(8), 0);
        check.due("value(12)", x.value(12), 1);
    }

    /** "The first of these that fits" of register: OUTSIDE, STATE, FULL, NO, each pair of them. */
    private static void registerReasons() {
        BusBridge x = withRegister(PLAIN, 5);
        registerIs(x, 8, 8, 0, OUTSIDE);
        registerIs(x, 8, GUARD, 2, OUTSIDE);
        registerIs(x, 32, -1, 0, OUTSIDE);
        x.clock(1);
        registerIs(x, 12, 8, 0, OUTSIDE);
        registerIs(x, 12, GUARD, -1, OUTSIDE);
        registerIs(x, 13, PLAIN, 0, OUTSIDE);
        registerIs(x, 12, PLAIN, 0, STATE);
        registerIs(x, 8, PLAIN, 0, STATE);
        registerIs(x, 32, PLAIN, 0, STATE);
        BusBridge y = new BusBridge();
        y.slave(0, 400, 0, false);
        for (int r = 0; r < 48; r++) {
            y.register(r * 4, PLAIN, 0);
        }
        registerIs(y, 201, PLAIN, 0, OUTSIDE);
        registerIs(y, 200, 8, 0, OUTSIDE);
        registerIs(y, 200, GUARD, 2, OUTSIDE);
        registerIs(y, 0, PLAIN, 0, FULL);
        registerIs(y, 404, PLAIN, 0, FULL);
        y.clock(1);
        registerIs(y, 200, PLAIN, 0, STATE);
        registerIs(y, 0, PLAIN, 0, STATE);
        registerIs(y, 200, 8, 0, OUTSIDE);
    }

    /** "0 PLAIN: a write sets it; 1 CONSTANT: a write leaves it". */
    private static void plainAndConstant() {
        int[] data = {0, 1, -1, MIN, MAX};
        for (int value : data) {
            BusBridge x = withRegister(PLAIN, 5);
            write(x, 8, value, DONE);
            check.due("value(8)", x.value(8), value);
            read(x, 8, value);
            BusBridge y = withRegister(CONSTANT, 5);
            write(y, 8, value, DONE);
            check.due("value(8)", y.value(8), 5);
            read(y, 8, 5);
        }
    }

    /** "2 SET: a write puts on the bits that it has; 3 CLEARED: puts them off". */
    private static void setAndCleared() {
        int[][] rows = {
            {5, 0, 5, 5}, {5, 3, 7, 4}, {5, -1, -1, 0}, {0, MIN, MIN, 0}, {-1, MIN, -1, MAX}, {MIN, MAX, -1, MIN},
            {5, 5, 5, 0}
        };
        for (int[] row : rows) {
            BusBridge x = withRegister(SET, row[0]);
            write(x, 8, row[1], DONE);
            read(x, 8, row[2]);
            BusBridge y = withRegister(CLEARED, row[0]);
            write(y, 8, row[1], DONE);
            read(y, 8, row[3]);
        }
    }

    /** "4 COUNTER: .. it is one more behind each clock (wraps)". */
    private static void counters() {
        int[][] rows = {{MAX, MIN}, {-1, 0}, {MIN, MIN + 1}, {MAX - 1, MAX}};
        for (int[] row : rows) {
            BusBridge x = withRegister(COUNTER, row[0]);
            check.due("value(8) in clock 0", x.value(8), row[0]);
            x.clock(0);
            check.due("value(8) behind clock(0)", x.value(8), row[0]);
            x.clock(1);
            check.due("value(8) in clock 1", x.value(8), row[1]);
        }
        BusBridge x = withRegister(COUNTER, MAX - 499);
        x.clock(499);
        check.due("value(8) in clock 499", x.value(8), MAX);
        x.clock(500);
        check.due("value(8) in clock 999", x.value(8), MIN + 499);
    }

    /** "COUNTERS are one more behind all that (one that was written in this clock is not)". */
    private static void counterWritten() {
        BusBridge x = withRegister(COUNTER, 5);
        x.register(12, COUNTER, 50);
        x.transfer(8, true, MAX, 2, 0);
        x.clock(3);
        check.due("value(8) in the clock of SETUP", x.value(8), 8);
        x.clock(1);
        check.due("value(8) behind the clock in which it was written", x.value(8), MAX);
        check.due("value(12): another one is one more", x.value(12), 54);
        x.clock(1);
        check.due("value(8) wraps", x.value(8), MIN);
        check.due("value(12)", x.value(12), 55);
        // Under a GUARD the write is an ERROR, which changes nothing: it is one more.
        BusBridge y = withRegister(COUNTER, 5);
        y.register(12, GUARD, 1);
        y.transfer(8, true, 100, 2, 0);
        y.clock(4);
        check.due("value(8) behind a write that is an ERROR", y.value(8), 9);
    }

    /** "5 ONCE: the first write sets it, later ones are ERRORS". */
    private static void once() {
        int[] first = {5, 0, -1};
        for (int data : first) {
            BusBridge x = withRegister(ONCE, 5);
            read(x, 8, 5);
            write(x, 8, data, DONE);
            write(x, 8, data, ERROR);
            write(x, 8, data + 1, ERROR);
            read(x, 8, data);
            x.reset();
            check.due("value(8) behind reset()", x.value(8), 5);
            write(x, 8, 7, DONE);
            write(x, 8, 8, ERROR);
            check.due("value(8)", x.value(8), 7);
        }
        BusBridge y = withRegister(ONCE, 5);
        y.register(12, ONCE, 6);
        write(y, 8, 1, DONE);
        write(y, 12, 2, DONE);
        write(y, 8, 3, ERROR);
        check.due("value(12)", y.value(12), 2);
    }

    /** "6 AWAY: a write sets it, a read gives it and leaves 0". */
    private static void away() {
        BusBridge x = withRegister(AWAY, MIN);
        check.due("value(8)", x.value(8), MIN);
        check.due("value(8) leaves it", x.value(8), MIN);
        read(x, 8, MIN);
        check.due("value(8) behind a read", x.value(8), 0);
        read(x, 8, 0);
        write(x, 8, -1, DONE);
        check.due("value(8) behind a write", x.value(8), -1);
        read(x, 8, -1);
        read(x, 8, 0);
    }

    /** "7 GUARD: a write of 0, 1 sets it, others are ERRORS". */
    private static void guardTakes() {
        int[] wrong = {2, 3, -1, MIN, MAX};
        for (int is = 0; is < 2; is++) {
            BusBridge x = withRegister(GUARD, is);
            for (int data : wrong) {
                write(x, 8, data, ERROR);
                check.due("value(8)", x.value(8), is);
            }
            write(x, 8, is, DONE);
            write(x, 8, 1 - is, DONE);
            read(x, 8, 1 - is);
            write(x, 8, is, DONE);
            read(x, 8, is);
        }
    }

    /** "while it is not 0 writes of other REGISTERS of its SLAVE are ERRORS". */
    private static void guardsOthers() {
        for (int kind = 0; kind < 7; kind++) {
            BusBridge x = new BusBridge();
            x.slave(0, 28, 0, false);
            x.slave(32, 60, 0, false);
            x.register(12, kind, 5);
            x.register(8, GUARD, 1);
            x.register(32, kind, 5);
            write(x, 12, 2, ERROR);
            write(x, 32, 2, DONE);
            write(x, 8, 0, DONE);
            write(x, 12, 2, DONE);
            write(x, 8, 1, DONE);
            write(x, 12, 3, ERROR);
            if (kind != COUNTER) {
                read(x, 12, heldBehindTwo(kind));
            }
        }
    }

    /** What a REGISTER of a KIND holds that had 5 and was written 2. */
    private static int heldBehindTwo(int kind) {
        return kind == CONSTANT || kind == CLEARED ? 5 : kind == SET ? 7 : 2;
    }

    private static void guardsOfOneSlave() {
        BusBridge x = withRegister(GUARD, 0);
        x.register(12, GUARD, 1);
        x.register(16, PLAIN, 5);
        write(x, 8, 1, ERROR);
        write(x, 16, 1, ERROR);
        write(x, 12, 0, DONE);
        write(x, 8, 1, DONE);
        write(x, 12, 1, ERROR);
        write(x, 16, 1, ERROR);
        write(x, 8, 0, DONE);
        write(x, 16, 1, DONE);
    }

    /** "ERRORS change nothing": a write under a GUARD leaves each KIND as it was, ONCE unwritten. */
    private static void errorsChangeNothing() {
        int[] kept = {PLAIN, CONSTANT, SET, CLEARED, ONCE, AWAY};
        for (int kind : kept) {
            BusBridge x = withRegister(kind, 5);
            x.register(12, GUARD, 1);
            write(x, 8, 2, ERROR);
            check.due("value(8) of KIND " + kind, x.value(8), 5);
            write(x, 12, 0, DONE);
            write(x, 8, 2, DONE);
        }
    }

    /** "Where a SLAVE has no REGISTER .. a read gives 0, a write is an ERROR". */
    private static void noRegister() {
        BusBridge x = new BusBridge();
        x.slave(0, 28, 0, false);
        read(x, 0, 0);
        write(x, 0, 0, ERROR);
        write(x, 28, 1, ERROR);
        read(x, 28, 0);
        check.due("bridge(5)", x.bridge(5), 4);
        BusBridge y = withRegister(PLAIN, 5);
        read(y, 8, 5);
        read(y, 4, 0);
        read(y, 12, 0);
        write(y, 4, 9, ERROR);
        write(y, 12, 9, ERROR);
        check.due("value(8)", y.value(8), 5);
        check.refused("value(4)", y, y.value(4), 0, UNKNOWN);
    }

    /** "and at ADDRESSES that are no words, a read gives 0, a write is an ERROR". */
    private static void noWords() {
        for (int off = 1; off < 4; off++) {
            BusBridge x = withRegister(AWAY, 5);
            read(x, 8 + off, 0);
            write(x, 8 + off, 9, ERROR);
            check.due("value(8)", x.value(8), 5);
            check.due("log(0, 1)", x.log(0, 1), 8 + off);
            read(x, 8, 5);
        }
    }

    /** "(A SLAVE's range goes to the last word's last byte.)" */
    private static void lastByte() {
        BusBridge x = new BusBridge();
        x.slave(16, 24, 0, false);
        int[] inside = {16, 27};
        for (int address : inside) {
            check.due("decode(" + address + ")", x.decode(address), 0);
            read(x, address, 0);
        }
        check.due("bridge(5)", x.bridge(5), 2);
        int[] beyond = {15, 28};
        for (int address : beyond) {
            check.due("decode(" + address + ")", x.decode(address), NONE);
            int t = x.transfer(address, false, 0, 2, 0);
            x.finish(100);
            check.due("how the read at " + address + " is", x.result(t, 0), ERROR);
        }
        check.due("bridge(5)", x.bridge(5), 2);
    }

    /** "DEPTH (0 to 4): which it was. OUTSIDE; STATE." "(.. 0 at first)". */
    private static void depths() {
        BusBridge x = new BusBridge();
        int was = 0;
        int[] right = {0, 4, 3, 1, 2, 2, 0};
        for (int n : right) {
            check.well("depth(" + n + ")", x, x.depth(n), was);
            was = n;
        }
        int[] wrong = {-1, 5, MIN, MAX};
        for (int n : wrong) {
            check.refused("depth(" + n + ")", x, x.depth(n), OUTSIDE);
        }
        check.well("depth(4)", x, x.depth(4), 0);
        x.clock(1);
        for (int n : wrong) {
            check.refused("depth(" + n + ") in clock 1", x, x.depth(n), OUTSIDE);
        }
        for (int n = 0; n <= 4; n++) {
            check.refused("depth(" + n + ") in clock 1", x, x.depth(n), STATE);
        }
        x.reset();
        check.well("depth(0)", x, x.depth(0), 4);
    }

    /** "LIMIT (4 to 60): which it was. OUTSIDE; STATE." "(.. 32 at first)". */
    private static void limits() {
        BusBridge x = new BusBridge();
        int was = 32;
        int[] right = {4, 60, 5, 59, 59};
        for (int n : right) {
            check.well("limit(" + n + ")", x, x.limit(n), was);
            was = n;
        }
        int[] wrong = {3, 61, 0, -1, -4, MIN, MAX};
        for (int n : wrong) {
            check.refused("limit(" + n + ")", x, x.limit(n), OUTSIDE);
        }
        check.well("limit(60)", x, x.limit(60), 59);
        x.clock(1);
        for (int n : wrong) {
            check.refused("limit(" + n + ") in clock 1", x, x.limit(n), OUTSIDE);
        }
        check.refused("limit(4) in clock 1", x, x.limit(4), STATE);
        check.refused("limit(60) in clock 1", x, x.limit(60), STATE);
        x.reset();
        check.well("limit(4)", x, x.limit(4), 60);
    }

    /** "All this is told ahead of the first clock"; "STATE: the clock is not 0". */
    private static void aheadOfTheFirstClock() {
        BusBridge x = new BusBridge();
        slaveIs(x, 0, 0, 0, 0);
        x.transfer(0, false, 0, 2, 0);
        x.turn(6, 1, 100);
        x.clock(0);
        x.finish(0);
        slaveIs(x, 4, 4, 0, 1);
        registerIs(x, 0, PLAIN, 77, 1);
        check.well("depth(1)", x, x.depth(1), 0);
        check.well("limit(4)", x, x.limit(4), 32);
        check.due("told(2): the TRANSFER is still there", x.told(2), 1);
        x.clock(4);
        check.due("wire(6): so is what is TURNED", x.wire(6), 76);
        check.due("under(6): a REGISTER told behind the TRANSFER", x.under(6), 77);
        slaveIs(x, 8, 8, 0, STATE);
        registerIs(x, 4, PLAIN, 0, STATE);
        check.refused("depth(2)", x, x.depth(2), STATE);
        check.refused("limit(5)", x, x.limit(5), STATE);
        BusBridge y = new BusBridge();
        y.finish(100);
        slaveIs(y, 0, 0, 0, 0);
    }

    private static void clockIsZeroAgain() {
        BusBridge x = new BusBridge();
        x.keep(0);
        x.clock(1);
        slaveIs(x, 0, 0, 0, STATE);
        x.back(0);
        slaveIs(x, 0, 0, 0, 0);
        x.clock(1);
        registerIs(x, 0, PLAIN, 0, STATE);
        check.well("reset()", x, x.reset(), 1);
        registerIs(x, 0, PLAIN, 3, 1);
        check.due("value(0)", x.value(0), 3);
    }

    /** reset: "which clock it was". */
    private static void resetAnswers() {
        BusBridge x = new BusBridge();
        check.well("reset() of a new object", x, x.reset(), 0);
        x.clock(1);
        check.well("reset() in clock 1", x, x.reset(), 1);
        check.well("reset() once more", x, x.reset(), 0);
        x.clock(500);
        x.clock(500);
        check.well("reset() in clock 1000", x, x.reset(), 1000);
        check.due("told(7)", x.told(7), 0);
    }

    /** "All is as it was ahead of clock 0, but what THE MAP is, DEPTH, LIMIT; what is kept stays". */
    private static void resetLeavesTheMap() {
        BusBridge x = new BusBridge();
        x.slave(0, 28, 3, false);
        x.slave(32, 60, 0, true);
        x.register(8, ONCE, 5);
        x.register(32, PLAIN, 6);
        x.depth(3);
        x.limit(7);
        x.transfer(8, true, 9, 2, 0);
        x.finish(100);
        x.keep(1);
        int clock = x.told(7);
        x.reset();
        check.due("told(0)", x.told(0), 2);
        check.due("told(1)", x.told(1), 2);
        check.due("told(2)", x.told(2), 0);
        check.due("value(8)", x.value(8), 5);
        check.due("decode(63)", x.decode(63), 1);
        slaveIs(x, 60, 64, 0, NO);
        registerIs(x, 8, PLAIN, 0, NO);
        check.well("depth(3)", x, x.depth(3), 3);
        check.well("limit(7)", x, x.limit(7), 7);
        x.transfer(8, true, 9, 2, 0);
        x.transfer(32, false, 0, 2, 0);
        x.finish(100);
        check.due("log(0, 7): DEPTH stays", x.log(0, 7), 1);
        check.due("log(0, 5): WAIT stays", x.log(0, 5), 7);
        check.due("log(1, 6): BROKEN stays", x.log(1, 6), 3);
        check.due("log(1, 5): LIMIT stays", x.log(1, 5), x.log(1, 4) + 7);
        check.well("back(1)", x, x.back(1), clock);
        check.due("value(8)", x.value(8), 9);
    }

    /**
     * "reset() makes all as it was then: values, wires, the clock 0, no TRANSFERS, no LOG, no findings of MONITORS,
     * nothing TURNED": an object that was reset in the midst goes on as a new one does.
     */
    private static void resetInAnyClock() {
        for (int clock = 0; clock < 60; clock++) {
            BusBridge x = Tale.busy();
            BusBridge y = new BusBridge();
            x.clock(clock);
            x.turn(4, 1, 100);
            x.turn(8, 2, 100);
            x.clock(clock % 3);
            x.reset();
            Tale.map(y);
            Tale.same(check, "all behind reset() in clock " + clock, Tale.all(x), Tale.all(y));
            x.clock(2);
            y.clock(2);
            // No hand on the wires but one: SLAVES count nothing yet, and ENABLE is seen at once.
            x.turn(7, 4, 1);
            y.turn(7, 4, 1);
            x.turn(8, 1, 1);
            y.turn(8, 1, 1);
            x.transfer(0, false, 0, 2, 2);
            y.transfer(0, false, 0, 2, 2);
            Tale.play(x);
            Tale.play(y);
            x.clock(2);
            y.clock(2);
            Tale.same(check, "the wires in clock 4", Tale.wires(x), Tale.wires(y));
            check.due("finish(300)", x.finish(300), y.finish(300));
            Tale.same(check, "all in the end", Tale.all(x), Tale.all(y));
        }
    }

    /** value: "(UNKNOWN: 0, as status() tells.)" */
    private static void values() {
        BusBridge x = new BusBridge();
        check.refused("value(0) without SLAVES", x, x.value(0), 0, UNKNOWN);
        x.slave(0, 65532, 0, false);
        check.refused("value(0) without REGISTERS", x, x.value(0), 0, UNKNOWN);
        x.register(0, PLAIN, 0);
        x.register(65532, PLAIN, -1);
        check.well("value(0), which is 0", x, x.value(0), 0);
        check.well("value(65532), which is -1", x, x.value(65532), -1);
        int[] none = {-1, -4, 1, 2, 3, 4, 65528, 65533, 65535, 65536, MIN, MAX};
        for (int word : none) {
            check.refused("value(" + word + ")", x, x.value(word), 0, UNKNOWN);
        }
    }

    /** decode: "The SLAVE in whose range an ADDRESS lies; NONE." */
    private static void ranges() {
        BusBridge x = new BusBridge();
        check.well("decode(0) without SLAVES", x, x.decode(0), NONE);
        for (int s = 7; s >= 0; s--) {
            x.slave(s * 8 + 4, s * 8 + 4, 0, s % 2 == 0);
        }
        for (int s = 0; s < 8; s++) {
            check.well("decode ahead of it", x, x.decode(s * 8 + 3), NONE);
            check.well("decode of its first byte", x, x.decode(s * 8 + 4), 7 - s);
            check.well("decode of its last byte", x, x.decode(s * 8 + 7), 7 - s);
            check.well("decode behind it", x, x.decode(s * 8 + 8), NONE);
        }
    }
}
