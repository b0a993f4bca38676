import java.util.function.Supplier;
import java.util.function.ToIntFunction;

/**
 * "Calls that are refused answer, the first of these that fits .. They change nothing": each reason of each call in
 * several situations. Of two objects of the same making one gets the refused call; then all that both tell, and what
 * becomes of them later, is compared.
 */
public final class RefusedTest {
    private static final Check check = new Check("RefusedTest");
    private static final int UNKNOWN = BusBridge.UNKNOWN, OUTSIDE = BusBridge.OUTSIDE, STATE = BusBridge.STATE;
    private static final int FULL = BusBridge.FULL, NO = BusBridge.NO;
    private static final int FAR = 60000;

    private static Supplier<BusBridge> making;
    private static String situation;

    public static void main(String[] args) {
        in("nothing told", BusBridge::new);
        alwaysRefused();
        in("clock 0 with a map", RefusedTest::atFirst);
        alwaysRefused();
        refusedAtFirst();
        in("the midst", RefusedTest::inTheMidst);
        alwaysRefused();
        refusedInTheMidst();
        in("all full", RefusedTest::full);
        alwaysRefused();
        refusedFull();
        in("more than 200 ACTS", RefusedTest::manyActs);
        refused("again()", x -> x.again(), FULL, FULL);
        check.close();
    }

    private static void in(String name, Supplier<BusBridge> maker) {
        situation = name;
        making = maker;
    }

    private static BusBridge atFirst() {
        BusBridge x = new BusBridge();
        x.keep(0);
        Tale.map(x);
        x.keep(1);
        Tale.play(x);
        return x;
    }

    private static BusBridge inTheMidst() {
        BusBridge x = atFirst();
        x.clock(13);
        x.turn(9, 1, 20);
        x.clock(1);
        return x;
    }

    private static BusBridge full() {
        BusBridge x = new BusBridge();
        for (int s = 0; s < 8; s++) {
            x.slave(s * 32, s * 32 + 28, s % 3, false);
        }
        for (int r = 0; r < 48; r++) {
            x.register(r * 4, r % 7, r);
        }
        x.keep(1);
        for (int t = 0; t < 60; t++) {
            x.transfer(t * 4, t % 3 != 0, t, 2, 0);
        }
        return x;
    }

    private static BusBridge manyActs() {
        BusBridge x = new BusBridge();
        x.slave(0, 28, 0, false);
        x.register(0, 6, 5);
        x.keep(1);
        for (int i = 0; i < 7; i++) {
            x.turn(2, 2, 100);
            x.clock(99);
        }
        return x;
    }

    private static void refused(String name, ToIntFunction<BusBridge> call, int answer, int reason) {
        BusBridge x = making.get();
        BusBridge y = making.get();
        String what = name + " in " + situation;
        check.refused(what, x, call.applyAsInt(x), answer, reason);
        Tale.same(check, what + ", at once", Tale.all(x), Tale.all(y));
        x.clock(1);
        y.clock(1);
        Tale.same(check, what + ", a clock later", Tale.wires(x), Tale.wires(y));
        check.due(what + ", then finish(300)", x.finish(300), y.finish(300));
        Tale.same(check, what + ", in the end", Tale.all(x), Tale.all(y));
        Tale.same(check, what + ", behind it", Tale.behind(x), Tale.behind(y));
    }

    private static void refused(String name, ToIntFunction<BusBridge> call, int reason) {
        refused(name, call, reason, reason);
    }

    /** Calls that are refused in each situation, and why. */
    private static void alwaysRefused() {
        mapCalls();
        doingCalls();
        tellingCalls();
        stateCalls();
    }

    private static void mapCalls() {
        refused("slave(1, 4, 0, false)", x -> x.slave(1, 4, 0, false), OUTSIDE);
        refused("slave(-4, 4, 0, false)", x -> x.slave(-4, 4, 0, false), OUTSIDE);
        refused("slave(FAR, 65536, 0, false)", x -> x.slave(FAR, 65536, 0, false), OUTSIDE);
        refused("slave(FAR, FAR - 4, 0, false)", x -> x.slave(FAR, FAR - 4, 0, false), OUTSIDE);
        refused("slave(FAR, FAR, -1, false)", x -> x.slave(FAR, FAR, -1, false), OUTSIDE);
        refused("slave(FAR, FAR, 16, true)", x -> x.slave(FAR, FAR, 16, true), OUTSIDE);
        refused("register(3, 0, 0)", x -> x.register(3, 0, 0), OUTSIDE);
        refused("register(-4, 0, 0)", x -> x.register(-4, 0, 0), OUTSIDE);
        refused("register(65536, 0, 0)", x -> x.register(65536, 0, 0), OUTSIDE);
        refused("register(0, -1, 0)", x -> x.register(0, -1, 0), OUTSIDE);
        refused("register(0, 8, 0)", x -> x.register(0, 8, 0), OUTSIDE);
        refused("register(0, 7, 2)", x -> x.register(0, 7, 2), OUTSIDE);
        refused("register(0, 7, -1)", x -> x.register(0, 7, -1), OUTSIDE);
        refused("depth(-1)", x -> x.depth(-1), OUTSIDE);
        refused("depth(5)", x -> x.depth(5), OUTSIDE);
        refused("limit(3)", x -> x.limit(3), OUTSIDE);
        refused("limit(61)", x -> x.limit(61), OUTSIDE);
    }

    private static void doingCalls() {
        refused("transfer(-1, true, 1, 2, 0)", x -> x.transfer(-1, true, 1, 2, 0), OUTSIDE);
        refused("transfer(65536, true, 1, 2, 0)", x -> x.transfer(65536, true, 1, 2, 0), OUTSIDE);
        refused("transfer(0, true, 1, 1, 0)", x -> x.transfer(0, true, 1, 1, 0), OUTSIDE);
        refused("transfer(0, true, 1, 4, 0)", x -> x.transfer(0, true, 1, 4, 0), OUTSIDE);
        refused("transfer(0, true, 1, 2, -1)", x -> x.transfer(0, true, 1, 2, -1), OUTSIDE);
        refused("transfer(0, true, 1, 2, 8)", x -> x.transfer(0, true, 1, 2, 8), OUTSIDE);
        refused("clock(-1)", x -> x.clock(-1), OUTSIDE);
        refused("clock(501)", x -> x.clock(501), OUTSIDE);
        refused("finish(-1)", x -> x.finish(-1), OUTSIDE);
        refused("finish(2001)", x -> x.finish(2001), OUTSIDE);
        refused("turn(-1, 1, 1)", x -> x.turn(-1, 1, 1), UNKNOWN);
        refused("turn(15, 1, 1)", x -> x.turn(15, 1, 1), UNKNOWN);
        refused("turn(15, 1, 0)", x -> x.turn(15, 1, 0), UNKNOWN);
        refused("turn(14, 1, 0)", x -> x.turn(14, 1, 0), OUTSIDE);
        refused("turn(4, 1, 101)", x -> x.turn(4, 1, 101), OUTSIDE);
        refused("turn(9, 1, -1)", x -> x.turn(9, 1, -1), OUTSIDE);
    }

    private static void tellingCalls() {
        refused("wire(-1)", x -> x.wire(-1), 0, UNKNOWN);
        refused("wire(15)", x -> x.wire(15), 0, UNKNOWN);
        refused("under(-1)", x -> x.under(-1), 0, UNKNOWN);
        refused("under(15)", x -> x.under(15), 0, UNKNOWN);
        refused("result(-1, 0)", x -> x.result(-1, 0), 0, UNKNOWN);
        refused("result(60, 4)", x -> x.result(60, 4), 0, UNKNOWN);
        refused("log(-1, 0)", x -> x.log(-1, 0), 0, UNKNOWN);
        refused("log(200, 8)", x -> x.log(200, 8), 0, UNKNOWN);
        refused("findings(-1)", x -> x.findings(-1), OUTSIDE);
        refused("findings(16)", x -> x.findings(16), OUTSIDE);
        refused("finding(-1, 0)", x -> x.finding(-1, 0), UNKNOWN);
        refused("finding(60, 2)", x -> x.finding(60, 2), UNKNOWN);
        refused("value(2)", x -> x.value(2), 0, UNKNOWN);
        refused("value(-4)", x -> x.value(-4), 0, UNKNOWN);
        refused("value(FAR)", x -> x.value(FAR), 0, UNKNOWN);
        refused("bridge(-1)", x -> x.bridge(-1), OUTSIDE);
        refused("bridge(6)", x -> x.bridge(6), OUTSIDE);
        refused("told(-1)", x -> x.told(-1), OUTSIDE);
        refused("told(8)", x -> x.told(8), OUTSIDE);
    }

    private static void stateCalls() {
        refused("keep(-1)", x -> x.keep(-1), UNKNOWN);
        refused("keep(3)", x -> x.keep(3), UNKNOWN);
        refused("back(-1)", x -> x.back(-1), UNKNOWN);
        refused("back(3)", x -> x.back(3), UNKNOWN);
        refused("back(2)", x -> x.back(2), UNKNOWN);
        refused("differs(-1)", x -> x.differs(-1), UNKNOWN);
        refused("differs(3)", x -> x.differs(3), UNKNOWN);
        refused("differs(2)", x -> x.differs(2), UNKNOWN);
    }

    private static void refusedAtFirst() {
        refused("slave(28, 32, 0, false)", x -> x.slave(28, 32, 0, false), NO);
        refused("register(0, 0, 0)", x -> x.register(0, 0, 0), NO);
        refused("register(96, 0, 0)", x -> x.register(96, 0, 0), NO);
        refused("result(0, 4)", x -> x.result(0, 4), 0, OUTSIDE);
        refused("result(13, 0)", x -> x.result(13, 0), 0, UNKNOWN);
        refused("log(0, 0)", x -> x.log(0, 0), 0, UNKNOWN);
        refused("finding(0, 0)", x -> x.finding(0, 0), UNKNOWN);
        refused("back(0)", x -> x.back(0), STATE);
        refused("differs(0)", x -> x.differs(0), STATE);
    }

    private static void refusedInTheMidst() {
        refused("slave(FAR, FAR, 0, false)", x -> x.slave(FAR, FAR, 0, false), STATE);
        refused("slave(0, 0, 0, false)", x -> x.slave(0, 0, 0, false), STATE);
        refused("register(32, 0, 0)", x -> x.register(32, 0, 0), STATE);
        refused("register(0, 0, 0)", x -> x.register(0, 0, 0), STATE);
        refused("depth(0)", x -> x.depth(0), STATE);
        refused("depth(2)", x -> x.depth(2), STATE);
        refused("limit(4)", x -> x.limit(4), STATE);
        refused("limit(6)", x -> x.limit(6), STATE);
        refused("result(0, -1)", x -> x.result(0, -1), 0, OUTSIDE);
        refused("result(13, 0)", x -> x.result(13, 0), 0, UNKNOWN);
        refused("log(0, 8)", x -> x.log(0, 8), 0, OUTSIDE);
        refused("finding(0, 2)", x -> x.finding(0, 2), OUTSIDE);
        refused("back(0)", x -> x.back(0), STATE);
        refused("differs(0)", x -> x.differs(0), STATE);
    }

    private static void refusedFull() {
        refused("slave(FAR, FAR, 0, false)", x -> x.slave(FAR, FAR, 0, false), FULL);
        refused("slave(0, 0, 0, false)", x -> x.slave(0, 0, 0, false), FULL);
        refused("register(192, 0, 0)", x -> x.register(192, 0, 0), FULL);
        refused("register(0, 0, 0)", x -> x.register(0, 0, 0), FULL);
        refused("register(FAR, 0, 0)", x -> x.register(FAR, 0, 0), FULL);
        refused("transfer(0, true, 1, 2, 0)", x -> x.transfer(0, true, 1, 2, 0), FULL);
    }
}
