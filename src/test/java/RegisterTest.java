/** The KINDS of REGISTERS as transfers reach them (Terms, 1 THE MAP). */
public final class RegisterTest {
    private static final Check check = new Check("RegisterTest");
    private static final int DONE = 3;
    private static final int ERROR = 4;

    public static void main(String[] args) {
        plain();
        bits();
        counter();
        once();
        away();
        guard();
        guards();
        nowhere();
        check.close();
    }

    private static BusBridge withRegister(int kind, int value) {
        BusBridge x = new BusBridge();
        x.slave(0, 28, 0, false);
        x.slave(32, 60, 0, false);
        x.register(0, kind, value);
        return x;
    }

    private static void write(BusBridge x, int address, int data, int how) {
        int t = x.transfer(address, true, data, 2, 0);
        x.finish(100);
        check.due("how a write of " + data + " at " + address + " is", x.result(t, 0), how);
    }

    private static void read(BusBridge x, int address, int gives) {
        int t = x.transfer(address, false, 0, 2, 0);
        x.finish(100);
        check.due("how a read at " + address + " is", x.result(t, 0), DONE);
        check.due("what a read at " + address + " gives", x.result(t, 1), gives);
    }

    private static void plain() {
        BusBridge x = withRegister(0, 5);
        read(x, 0, 5);
        write(x, 0, Integer.MIN_VALUE, DONE);
        read(x, 0, Integer.MIN_VALUE);
        write(x, 0, 3, DONE);
        read(x, 0, 3);
        read(x, 0, 3);
        BusBridge y = withRegister(1, 5);
        write(y, 0, 9, DONE);
        read(y, 0, 5);
    }

    private static void bits() {
        BusBridge x = withRegister(2, 5);
        write(x, 0, 10, DONE);
        read(x, 0, 15);
        write(x, 0, 0, DONE);
        read(x, 0, 15);
        BusBridge y = withRegister(3, 15);
        write(y, 0, 5, DONE);
        read(y, 0, 10);
        write(y, 0, -1, DONE);
        read(y, 0, 0);
    }

    /** A write of WAIT 0 at DEPTH 0 told in clock c is done by its SLAVE in clock c and 3. */
    private static void counter() {
        BusBridge x = withRegister(4, 5);
        x.transfer(0, true, 50, 2, 0);
        x.clock(3);
        check.due("value(0) ahead of the write", x.value(0), 8);
        x.clock(1);
        check.due("value(0) in the clock behind the write", x.value(0), 50);
        x.clock(1);
        check.due("value(0) one more", x.value(0), 51);
        x.clock(1);
        // Told in clock 6, a read is done by its SLAVE in clock 8, where the COUNTER has 54.
        read(x, 0, 54);
    }

    private static void once() {
        BusBridge x = withRegister(5, 5);
        read(x, 0, 5);
        write(x, 0, 6, DONE);
        write(x, 0, 7, ERROR);
        write(x, 0, 6, ERROR);
        read(x, 0, 6);
        BusBridge y = withRegister(5, 5);
        y.register(4, 7, 1);
        write(y, 0, 6, ERROR);
        write(y, 4, 0, DONE);
        write(y, 0, 7, DONE);
        read(y, 0, 7);
    }

    private static void away() {
        BusBridge x = withRegister(6, 5);
        read(x, 0, 5);
        check.due("value(0)", x.value(0), 0);
        read(x, 0, 0);
        write(x, 0, 8, DONE);
        check.due("value(0)", x.value(0), 8);
        read(x, 0, 8);
        read(x, 0, 0);
    }

    private static void guard() {
        BusBridge x = withRegister(7, 0);
        x.register(4, 0, 1);
        x.register(8, 1, 1);
        x.register(32, 0, 1);
        write(x, 0, 2, ERROR);
        write(x, 0, -1, ERROR);
        write(x, 4, 2, DONE);
        write(x, 0, 1, DONE);
        write(x, 4, 3, ERROR);
        write(x, 8, 3, ERROR);
        write(x, 32, 3, DONE);
        read(x, 4, 2);
        read(x, 0, 1);
        write(x, 0, 2, ERROR);
        read(x, 0, 1);
        write(x, 0, 1, DONE);
        write(x, 0, 0, DONE);
        write(x, 4, 3, DONE);
        write(x, 8, 3, DONE);
        read(x, 4, 3);
        read(x, 8, 1);
        read(x, 32, 3);
    }

    private static void guards() {
        BusBridge x = withRegister(7, 1);
        x.register(4, 7, 1);
        x.register(32, 7, 0);
        write(x, 0, 0, ERROR);
        write(x, 4, 0, ERROR);
        write(x, 32, 1, DONE);
        check.due("value(0)", x.value(0), 1);
        check.due("value(4)", x.value(4), 1);
        check.due("value(32)", x.value(32), 1);
    }

    private static void nowhere() {
        BusBridge x = withRegister(0, 5);
        write(x, 4, 1, ERROR);
        read(x, 4, 0);
        for (int byteOf = 1; byteOf < 4; byteOf++) {
            write(x, byteOf, 9, ERROR);
            read(x, byteOf, 0);
        }
        read(x, 63, 0);
        write(x, 63, 0, ERROR);
        write(x, 64, 0, ERROR);
        check.due("bridge(5): 64 lies in no range", x.bridge(5), 10);
        check.due("value(0)", x.value(0), 5);
    }
}
