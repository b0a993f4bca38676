import java.util.Arrays;

/** What an object tells, gathered in rows that can be compared, and objects in the midst of much. */
final class Tale {
    private static final int FAR = 60000;

    private Tale() {
    }

    /** A map of all KINDS, a BROKEN SLAVE, POSTED writes, TRANSFERS of both KINDS, GAPS, wires that are TURNED. */
    static BusBridge busy() {
        BusBridge x = new BusBridge();
        map(x);
        play(x);
        return x;
    }

    static void map(BusBridge x) {
        x.slave(0, 28, 1, false);
        x.slave(32, 60, 0, true);
        x.slave(64, 92, 3, false);
        x.limit(6);
        x.depth(2);
        for (int kind = 0; kind < 8; kind++) {
            x.register(kind * 4, kind, kind == 7 ? 0 : 9 + kind);
        }
        x.register(64, 0, 40);
        x.register(68, 6, 41);
    }

    static void play(BusBridge x) {
        int[][] rows = {
            {0, 1, 5, 2, 0}, {64, 1, 6, 2, 0}, {20, 1, 7, 2, 0}, {64, 1, 17, 2, 0}, {68, 0, 0, 2, 0},
            {32, 1, 8, 2, 1}, {20, 1, 9, 2, 0}, {24, 0, 0, 2, 0}, {96, 0, 0, 2, 0}, {100, 0, 0, 3, 0},
            {16, 1, 1, 2, 3}, {28, 1, 1, 2, 0}, {8, 1, 4, 3, 2}
        };
        for (int[] row : rows) {
            x.transfer(row[0], row[1] != 0, row[2], row[3], row[4]);
        }
        x.turn(6, 5, 9);
        x.turn(14, 3, 60);
        x.turn(13, 1, 7);
        x.turn(3, 8, 2);
        x.turn(5, 1, 1);
    }

    /** All that is told, by some 150 calls. */
    static int[] all(BusBridge x) {
        int[] row = new int[190];
        int n = 0;
        for (int i = 0; i < 15; i++) {
            row[n++] = x.wire(i);
            row[n++] = x.under(i);
        }
        for (int i = 0; i < 6; i++) {
            row[n++] = x.bridge(i);
        }
        for (int i = 0; i < 8; i++) {
            row[n++] = x.told(i);
        }
        for (int i = 0; i < 16; i++) {
            row[n++] = x.findings(i);
        }
        for (int i = 0; i < 13; i++) {
            row[n++] = x.result(i, 1 + i % 3);
            row[n++] = x.result(i, 0);
            row[n++] = x.log(i, i % 8);
            row[n++] = x.log(i, 6);
            row[n++] = x.finding(i, i % 2);
        }
        for (int i = 0; i < 10; i++) {
            row[n++] = x.value(i < 8 ? i * 4 : i * 4 + 32);
        }
        for (int i = 0; i < 9; i++) {
            row[n++] = x.decode(i * 32);
        }
        row[n++] = x.again();
        return row;
    }

    /** The wires and THE BRIDGE alone, by 21 calls. */
    static int[] wires(BusBridge x) {
        int[] row = new int[21];
        for (int i = 0; i < 15; i++) {
            row[i] = x.wire(i);
        }
        for (int i = 0; i < 6; i++) {
            row[15 + i] = x.bridge(i);
        }
        return row;
    }

    /** What is seen only by calls that change much: what is kept, DEPTH, LIMIT, and how many there are. */
    static int[] behind(BusBridge x) {
        return new int[] {
            x.differs(0), x.differs(1), x.differs(2), x.back(0), x.back(1), x.back(2), x.value(24), x.reset(),
            x.depth(0), x.limit(4), x.transfer(0, false, 0, 2, 0), x.slave(FAR, FAR, 0, false),
            x.register(FAR, 0, 1), x.told(0), x.told(1)
        };
    }

    static void same(Check check, String what, int[] got, int[] want) {
        String rows = Arrays.equals(got, want) ? "" : ": " + Arrays.toString(got) + " for " + Arrays.toString(want);
        check.due(what + rows, rows.isEmpty() ? 1 : 0, 1);
    }
}
