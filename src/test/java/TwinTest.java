import java.util.Random;

/** Runs of calls drawn from fixed seeds, with the answers of Twin as those that are due. */
public final class TwinTest {
    private static final int RUNS = 1500;
    /** An object is used for 512 calls at most: half of them here, as each is followed by status(). */
    private static final int CALLS = 256;

    private final Check check = new Check("TwinTest");
    private BusBridge x;
    private Twin y;
    private Random dice;
    private int slaves;
    private int run;

    public static void main(String[] args) {
        TwinTest test = new TwinTest();
        for (int run = 0; run < RUNS && test.check.isClean(); run++) {
            test.play(run);
        }
        test.check.close();
    }

    private void play(int number) {
        run = number;
        dice = new Random(number);
        x = new BusBridge();
        y = new Twin();
        slaves = 1 + dice.nextInt(4);
        int turns = dice.nextInt(3) * 7;
        tellMap();
        for (int i = dice.nextInt(12); i > 0; i--) {
            tellTransfer();
        }
        for (int call = 44; call < CALLS && check.isClean(); call++) {
            int what = dice.nextInt(100);
            if (what < turns) {
                turnOne();
            } else if (what < 40) {
                goOn();
            } else if (what < 50) {
                tellTransfer();
            } else if (what < 56) {
                keepOrGoBack();
            } else if (what < 58) {
                changeMap();
            } else {
                ask();
            }
        }
    }

    private void due(String call, int got, int want) {
        check.due("run " + run + ": " + call, got, want);
        check.due("run " + run + ": " + call + ", then status()", x.status(), y.status());
    }

    private void tellMap() {
        for (int s = 0; s < slaves; s++) {
            int wait = dice.nextInt(4);
            boolean broken = dice.nextInt(8) == 0;
            int first = s * 32;
            due("slave", x.slave(first, first + 28, wait, broken), y.slave(first, first + 28, wait, broken));
        }
        for (int i = dice.nextInt(24); i > 0; i--) {
            tellRegister();
        }
        int depth = dice.nextInt(5);
        due("depth", x.depth(depth), y.depth(depth));
        int limit = 4 + dice.nextInt(8);
        due("limit", x.limit(limit), y.limit(limit));
    }

    private void tellRegister() {
        int word = dice.nextInt(slaves * 8 + 1) * 4;
        int kind = dice.nextInt(9);
        int value = kind == 7 ? dice.nextInt(3) / 2 : dice.nextInt(64) - 8;
        due("register", x.register(word, kind, value), y.register(word, kind, value));
    }

    private int anAddress() {
        int byWord = dice.nextInt(slaves * 8 + 1) * 4;
        return dice.nextInt(16) == 0 ? byWord + dice.nextInt(4) : byWord;
    }

    private void tellTransfer() {
        int address = anAddress();
        boolean write = dice.nextInt(5) < 3;
        int data = dice.nextInt(3) > 0 ? dice.nextInt(3) : dice.nextInt();
        int kind = 2 + dice.nextInt(5) / 3;
        int gap = dice.nextInt(3) == 0 ? dice.nextInt(9) : 0;
        due("transfer", x.transfer(address, write, data, kind, gap), y.transfer(address, write, data, kind, gap));
    }

    private void turnOne() {
        int wire = dice.nextInt(16);
        int mask = dice.nextInt(5) == 0 ? dice.nextInt() : 1 << dice.nextInt(6) >> 1;
        int clocks = dice.nextInt(12) == 0 ? dice.nextInt(103) : 1 + dice.nextInt(4);
        due("turn", x.turn(wire, mask, clocks), y.turn(wire, mask, clocks));
    }

    private void goOn() {
        int n = dice.nextInt(6);
        if (dice.nextInt(12) == 0) {
            n = dice.nextInt(40);
            due("finish(" + n + ")", x.finish(n), y.finish(n));
        } else {
            due("clock(" + n + ")", x.clock(n), y.clock(n));
        }
    }

    private void keepOrGoBack() {
        int k = dice.nextInt(13) / 3 - 1;
        int what = dice.nextInt(8);
        if (what < 3) {
            due("keep", x.keep(k), y.keep(k));
        } else if (what < 5) {
            due("back", x.back(k), y.back(k));
        } else {
            due("differs", x.differs(k), y.differs(k));
        }
    }

    private void changeMap() {
        int what = dice.nextInt(8);
        int n = dice.nextInt(8);
        if (what < 2) {
            due("reset", x.reset(), y.reset());
        } else if (what < 4) {
            due("depth", x.depth(n), y.depth(n));
        } else if (what < 6) {
            due("limit", x.limit(n), y.limit(n));
        } else if (what < 7) {
            tellRegister();
        } else {
            int first = dice.nextInt(80) * 2;
            due("slave", x.slave(first, first + 4 * n - 4, n, false), y.slave(first, first + 4 * n - 4, n, false));
        }
    }

    private void ask() {
        int i = dice.nextInt(17) - 1;
        int row = dice.nextInt(22) - 1;
        int what = dice.nextInt(10) - 1;
        switch (dice.nextInt(12)) {
            case 0 -> due("wire(" + i + ")", x.wire(i), y.wire(i));
            case 1 -> due("under(" + i + ")", x.under(i), y.under(i));
            case 2 -> due("result(" + row + ", " + what / 2 + ")", x.result(row, what / 2), y.result(row, what / 2));
            case 3 -> due("log(" + row + ", " + what + ")", x.log(row, what), y.log(row, what));
            case 4 -> due("findings(" + i + ")", x.findings(i), y.findings(i));
            case 5 -> due("finding(" + row + ", " + what / 3 + ")", x.finding(row, what / 3), y.finding(row, what / 3));
            case 6, 7 -> {
                int word = anAddress();
                due("value(" + word + ")", x.value(word), y.value(word));
            }
            case 8 -> {
                int address = anAddress() + dice.nextInt(4);
                due("decode(" + address + ")", x.decode(address), y.decode(address));
            }
            case 9 -> due("bridge(" + what + ")", x.bridge(what), y.bridge(what));
            case 10 -> due("told(" + what + ")", x.told(what), y.told(what));
            default -> due("again()", x.again(), y.again());
        }
    }
}
