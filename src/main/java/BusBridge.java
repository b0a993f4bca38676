import java.util.Arrays;

/**
 * A bridge between two buses, clock by clock. The document (shared/DOC.md) tells what each call
 * answers; words in capitals here are its terms.
 */
public final class BusBridge {
    public static final int UNKNOWN = -1, OUTSIDE = -2, STATE = -3, FULL = -4, NO = -5, NONE = -6;

    private static final int PLACES = 3;
    private static final int MOST_CLOCKS = 500;
    private static final int MOST_FINISH = 2000;
    private static final int MOST_TURNED = 100;

    private final Plan plan;
    private final Machine now;
    private final Machine[] kept;
    private final int[] keptChanges;
    private final Cells replay;
    private int refused;

    public BusBridge() {
        plan = new Plan();
        now = new Machine();
        kept = new Machine[PLACES];
        keptChanges = new int[PLACES];
        replay = new Cells();
        refused = 0;
        now.clear(plan);
    }

    public int slave(int first, int last, int wait, boolean broken) {
        if (!Plan.isWord(first) || !Plan.isWord(last) || last < first) {
            return refuse(OUTSIDE);
        }
        if (wait < 0 || wait > Plan.MOST_WAIT) {
            return refuse(OUTSIDE);
        }
        if (now.time != 0) {
            return refuse(STATE);
        }
        if (plan.slaves >= Plan.MOST_SLAVES) {
            return refuse(FULL);
        }
        if (plan.meets(first, last)) {
            return refuse(NO);
        }
        return allow(plan.addSlave(first, last, wait, broken));
    }

    public int register(int word, int kind, int value) {
        if (!Plan.isWord(word) || kind < Plan.PLAIN || kind > Plan.GUARD) {
            return refuse(OUTSIDE);
        }
        if (kind == Plan.GUARD && !Plan.isGuardValue(value)) {
            return refuse(OUTSIDE);
        }
        if (now.time != 0) {
            return refuse(STATE);
        }
        if (plan.registers >= Plan.MOST_REGISTERS) {
            return refuse(FULL);
        }
        int owner = plan.slaveAt(word);
        if (owner < 0 || plan.registerOf(owner, word) >= 0) {
            return refuse(NO);
        }
        plan.addRegister(word, kind, value, owner);
        now.cells.clear(plan);
        return allow(plan.registers);
    }

    public int depth(int n) {
        if (n < 0 || n > Plan.MOST_DEPTH) {
            return refuse(OUTSIDE);
        }
        if (now.time != 0) {
            return refuse(STATE);
        }
        return allow(plan.changeDepth(n));
    }

    public int limit(int n) {
        if (n < Plan.LEAST_LIMIT || n > Plan.MOST_LIMIT) {
            return refuse(OUTSIDE);
        }
        if (now.time != 0) {
            return refuse(STATE);
        }
        return allow(plan.changeLimit(n));
    }

    public int reset() {
        int time = now.time;
        now.clear(plan);
        return allow(time);
    }

    public int transfer(int address, boolean write, int data, int kind, int gap) {
        if (address < 0 || address > Plan.LAST_ADDRESS) {
            return refuse(OUTSIDE);
        }
        if (!Wires.isTransfer(kind) || gap < 0 || gap > Master.MOST_GAP) {
            return refuse(OUTSIDE);
        }
        if (now.master.rows.isFull()) {
            return refuse(FULL);
        }
        return allow(now.master.addTransfer(address, write ? 1 : 0, data, kind, gap));
    }

    public int clock(int n) {
        if (n < 0 || n > MOST_CLOCKS) {
            return refuse(OUTSIDE);
        }
        for (int i = 0; i < n; i++) {
            now.tick(plan);
        }
        return allow(now.time);
    }

    public int finish(int n) {
        if (n < 0 || n > MOST_FINISH) {
            return refuse(OUTSIDE);
        }
        int gone = 0;
        while (gone < n && !now.isAtRest()) {
            now.tick(plan);
            gone++;
        }
        return allow(gone);
    }

    public int turn(int wire, int mask, int clocks) {
        if (!Wires.isWire(wire)) {
            return refuse(UNKNOWN);
        }
        if (clocks < 1 || clocks > MOST_TURNED) {
            return refuse(OUTSIDE);
        }
        now.wires.exchange(wire, mask, now.time, clocks);
        return allow(1);
    }

    public int wire(int i) {
        if (!Wires.isWire(i)) {
            return refuseWithZero(UNKNOWN);
        }
        return allow(now.wires.shown(i, now.time));
    }

    public int under(int i) {
        if (!Wires.isWire(i)) {
            return refuseWithZero(UNKNOWN);
        }
        return allow(now.wires.driven[i]);
    }

    public int result(int t, int what) {
        Table rows = now.master.rows;
        if (!rows.hasRow(t)) {
            return refuseWithZero(UNKNOWN);
        }
        if (what < 0 || what >= Master.RESULTS) {
            return refuseWithZero(OUTSIDE);
        }
        return allow(rows.get(t, what));
    }

    public int log(int i, int what) {
        Table acts = now.bridge.lower.acts;
        if (!acts.hasRow(i)) {
            return refuseWithZero(UNKNOWN);
        }
        if (!acts.hasColumn(what)) {
            return refuseWithZero(OUTSIDE);
        }
        return allow(acts.get(i, what));
    }

    public int findings(int rule) {
        if (rule < 0 || rule > Monitor.RULES) {
            return refuse(OUTSIDE);
        }
        return allow(now.monitor.counts[rule]);
    }

    public int finding(int i, int what) {
        Table rows = now.monitor.rows;
        if (!rows.hasRow(i)) {
            return refuse(UNKNOWN);
        }
        if (!rows.hasColumn(what)) {
            return refuse(OUTSIDE);
        }
        return allow(rows.get(i, what));
    }

    public int value(int word) {
        int owner = plan.slaveAt(word);
        int place = plan.registerOf(owner, word);
        if (place < 0) {
            return refuseWithZero(UNKNOWN);
        }
        return allow(now.cells.held[place]);
    }

    public int decode(int address) {
        int owner = plan.slaveAt(address);
        return allow(owner < 0 ? NONE : owner);
    }

    public int bridge(int what) {
        Bridge all = now.bridge;
        switch (what) {
            case 0: return allow(all.state);
            case 1: return allow(all.lower.phase);
            case 2: return allow(all.posted);
            case 3: return allow(all.lower.late);
            case 4: return allow(all.lower.timeouts);
            case 5: return allow(all.lower.begun);
            default: return refuse(OUTSIDE);
        }
    }

    public int again() {
        Table acts = now.bridge.lower.acts;
        if (now.bridge.lower.begun > Lower.MOST_KEPT) {
            return refuse(FULL);
        }
        replay.clear(plan);
        int time = 0;
        for (int i = 0; i < acts.count; i++) {
            int how = acts.get(i, Lower.HOW);
            if (how == Lower.WELL || how == Lower.BY_ERROR) {
                // The SLAVE acts one clock ahead of the one in which the bridge sees PREADY.
                int acted = acts.get(i, Lower.OVER_AT) - 1;
                replay.countUp(plan, acted - time);
                time = acted;
                if (playsOtherwise(acts, i)) {
                    return allow(i);
                }
            }
        }
        return allow(NONE);
    }

    public int keep(int k) {
        if (!isPlace(k)) {
            return refuse(UNKNOWN);
        }
        if (kept[k] == null) {
            kept[k] = new Machine();
        }
        kept[k].copyFrom(now);
        keptChanges[k] = plan.changes;
        return allow(1);
    }

    public int back(int k) {
        int reason = whyNotComparable(k);
        if (reason != 0) {
            return refuse(reason);
        }
        now.copyFrom(kept[k]);
        return allow(now.time);
    }

    public int differs(int k) {
        int reason = whyNotComparable(k);
        if (reason != 0) {
            return refuse(reason);
        }
        return allow(now.firstDifference(kept[k], plan.registers));
    }

    public int told(int what) {
        switch (what) {
            case 0: return allow(plan.slaves);
            case 1: return allow(plan.registers);
            case 2: return allow(now.master.rows.count);
            case 3: return allow(now.master.done);
            case 4: return allow(now.master.cancelled);
            case 5: return allow(now.bridge.lower.acts.count);
            case 6: return allow(now.monitor.rows.count);
            case 7: return allow(now.time);
            default: return refuse(OUTSIDE);
        }
    }

    public int status() {
        return refused;
    }

    private int allow(int answer) {
        refused = 0;
        return answer;
    }

    private int refuse(int reason) {
        refused = reason;
        return reason;
    }

    /** For calls whose answers may be any int: only status() tells that they were refused. */
    private int refuseWithZero(int reason) {
        refused = reason;
        return 0;
    }

    private static boolean isPlace(int k) {
        return k >= 0 && k < PLACES;
    }

    private int whyNotComparable(int k) {
        if (!isPlace(k) || kept[k] == null) {
            return UNKNOWN;
        }
        return keptChanges[k] == plan.changes ? 0 : STATE;
    }

    private boolean playsOtherwise(Table acts, int i) {
        int slave = acts.get(i, Lower.SLAVE);
        int address = acts.get(i, Lower.ADDRESS);
        boolean well = acts.get(i, Lower.HOW) == Lower.WELL;
        if (acts.get(i, Lower.WRITE) != 0) {
            return replay.write(plan, slave, address, acts.get(i, Lower.DATA)) != well;
        }
        int given = replay.read(plan, slave, address);
        return !well || given != acts.get(i, Lower.DATA);
    }

    /** THE MAP, DEPTH and LIMIT: what reset() leaves. */
    private static final class Plan {
        static final int MOST_SLAVES = 8;
        static final int MOST_REGISTERS = 48;
        static final int MOST_WAIT = 15;
        static final int MOST_DEPTH = 4;
        static final int LEAST_LIMIT = 4;
        static final int MOST_LIMIT = 60;
        static final int FIRST_LIMIT = 32;
        static final int LAST_ADDRESS = 65535;
        static final int LAST_WORD = 65532;
        static final int WORD_BYTES = 4;
        static final int PLAIN = 0, CONSTANT = 1, SET = 2, CLEARED = 3;
        static final int COUNTER = 4, ONCE = 5, AWAY = 6, GUARD = 7;

        final int[] first = new int[MOST_SLAVES];
        final int[] last = new int[MOST_SLAVES];
        final int[] wait = new int[MOST_SLAVES];
        final boolean[] broken = new boolean[MOST_SLAVES];
        final int[] words = new int[MOST_REGISTERS];
        final int[] kinds = new int[MOST_REGISTERS];
        final int[] values = new int[MOST_REGISTERS];
        final int[] owners = new int[MOST_REGISTERS];
        int slaves;
        int registers;
        int depth;
        int limit = FIRST_LIMIT;
        int changes;

        static boolean isWord(int address) {
            return address >= 0 && address <= LAST_WORD && address % WORD_BYTES == 0;
        }

        static boolean isGuardValue(int value) {
            return value == 0 || value == 1;
        }

        boolean meets(int from, int to) {
            for (int s = 0; s < slaves; s++) {
                if (from <= last[s] && first[s] <= to) {
                    return true;
                }
            }
            return false;
        }

        int addSlave(int from, int to, int clocks, boolean isBroken) {
            if (slaves >= MOST_SLAVES) {
                return FULL;
            }
            first[slaves] = from;
            last[slaves] = to;
            wait[slaves] = clocks;
            broken[slaves] = isBroken;
            slaves++;
            changes++;
            return slaves - 1;
        }

        void addRegister(int word, int kind, int value, int owner) {
            if (registers >= MOST_REGISTERS) {
                return;
            }
            words[registers] = word;
            kinds[registers] = kind;
            values[registers] = value;
            owners[registers] = owner;
            registers++;
            changes++;
        }

        int changeDepth(int n) {
            int old = depth;
            if (n != old) {
                depth = n;
                changes++;
            }
            return old;
        }

        int changeLimit(int n) {
            int old = limit;
            if (n != old) {
                limit = n;
                changes++;
            }
            return old;
        }

        boolean isInRange(int slave, int address) {
            return slave >= 0 && slave < slaves
                && address >= first[slave] && address < last[slave] + WORD_BYTES;
        }

        /** -1: in no SLAVE's range. */
        int slaveAt(int address) {
            for (int s = 0; s < slaves; s++) {
                if (isInRange(s, address)) {
                    return s;
                }
            }
            return -1;
        }

        /** -1: the SLAVE has no REGISTER there. */
        int registerOf(int slave, int address) {
            for (int r = 0; r < registers; r++) {
                if (words[r] == address && owners[r] == slave) {
                    return r;
                }
            }
            return -1;
        }
    }

    /** Rows of ints, so many at most, each index tested here. */
    private static final class Table {
        private final int[] row;
        private final int most;
        private final int width;
        int count;

        Table(int mostRows, int columns) {
            most = mostRows;
            width = columns;
            row = new int[Math.max(0, mostRows * columns)];
        }

        boolean isFull() {
            return count >= most;
        }

        boolean hasRow(int i) {
            return i >= 0 && i < count;
        }

        boolean hasColumn(int column) {
            return column >= 0 && column < width;
        }

        /** The new row's number, its columns 0; -1: the table is full. */
        int add() {
            if (isFull()) {
                return -1;
            }
            for (int at = count * width; at < (count + 1) * width; at++) {
                row[at] = 0;
            }
            count++;
            return count - 1;
        }

        int get(int i, int column) {
            return hasRow(i) && hasColumn(column) ? row[i * width + column] : 0;
        }

        void put(int i, int column, int value) {
            if (hasRow(i) && hasColumn(column)) {
                row[i * width + column] = value;
            }
        }

        void clear() {
            count = 0;
        }

        void copyFrom(Table other) {
            if (other.row.length != row.length) {
                return;
            }
            System.arraycopy(other.row, 0, row, 0, other.count * width);
            count = other.count;
        }
    }

    /** What the REGISTERS hold. */
    private static final class Cells {
        final int[] held = new int[Plan.MOST_REGISTERS];
        private final int[] spent = new int[Plan.MOST_REGISTERS];
        /** The COUNTER that was written in this clock, or -1: PADDR names one word, so it is one at most. */
        private int fresh = -1;

        void clear(Plan plan) {
            System.arraycopy(plan.values, 0, held, 0, held.length);
            Arrays.fill(spent, 0);
            fresh = -1;
        }

        void copyFrom(Cells other) {
            System.arraycopy(other.held, 0, held, 0, held.length);
            System.arraycopy(other.spent, 0, spent, 0, spent.length);
            fresh = other.fresh;
        }

        int read(Plan plan, int slave, int address) {
            int r = plan.registerOf(slave, address);
            if (r < 0) {
                return 0;
            }
            int given = held[r];
            if (plan.kinds[r] == Plan.AWAY) {
                held[r] = 0;
            }
            return given;
        }

        /** Whether it went well; an ERROR changes nothing, so a ONCE stays unspent by it. */
        boolean write(Plan plan, int slave, int address, int data) {
            int r = plan.registerOf(slave, address);
            if (r < 0 || isGuarded(plan, r)) {
                return false;
            }
            switch (plan.kinds[r]) {
                case Plan.CONSTANT:
                    break;
                case Plan.SET:
                    held[r] |= data;
                    break;
                case Plan.CLEARED:
                    held[r] &= ~data;
                    break;
                case Plan.COUNTER:
                    held[r] = data;
                    fresh = r;
                    break;
                case Plan.ONCE:
                    if (spent[r] != 0) {
                        return false;
                    }
                    held[r] = data;
                    spent[r] = 1;
                    break;
                case Plan.GUARD:
                    if (!Plan.isGuardValue(data)) {
                        return false;
                    }
                    held[r] = data;
                    break;
                default:
                    held[r] = data;
                    break;
            }
            return true;
        }

        private boolean isGuarded(Plan plan, int r) {
            for (int g = 0; g < plan.registers; g++) {
                if (g != r && plan.kinds[g] == Plan.GUARD && held[g] != 0
                    && plan.owners[g] == plan.owners[r]) {
                    return true;
                }
            }
            return false;
        }

        /** So many clocks go by; the first of them is the one in which a fresh COUNTER was written. */
        void countUp(Plan plan, int clocks) {
            if (clocks <= 0) {
                return;
            }
            for (int r = 0; r < plan.registers; r++) {
                if (plan.kinds[r] == Plan.COUNTER) {
                    held[r] += r == fresh ? clocks - 1 : clocks;
                }
            }
            fresh = -1;
        }
    }

    /** What drivers have set, and what all see of it in this clock and saw in the one before. */
    private static final class Wires {
        static final int ADDR = 0, WRITE = 1, TRANS = 2, WDATA = 3;
        static final int READY = 4, RESP = 5, RDATA = 6;
        static final int SEL = 7, ENABLE = 8, PADDR = 9, PWRITE = 10, PWDATA = 11;
        static final int PREADY = 12, PERROR = 13, PRDATA = 14;
        static final int COUNT = 15;
        private static final int FIRST_KIND = 2;
        static final int NEXT_KIND = 3;

        final int[] driven = new int[COUNT];
        final int[] seen = new int[COUNT];
        final int[] before = new int[COUNT];
        private final int[] masks = new int[COUNT];
        private final int[] from = new int[COUNT];
        private final int[] until = new int[COUNT];

        static boolean isWire(int i) {
            return i >= 0 && i < COUNT;
        }

        static boolean isTransfer(int trans) {
            return trans == FIRST_KIND || trans == NEXT_KIND;
        }

        void clear() {
            Arrays.fill(driven, 0);
            driven[READY] = 1;
            Arrays.fill(seen, 0);
            Arrays.fill(before, 0);
            Arrays.fill(masks, 0);
        }

        void copyFrom(Wires other) {
            System.arraycopy(other.driven, 0, driven, 0, COUNT);
            System.arraycopy(other.before, 0, before, 0, COUNT);
            System.arraycopy(other.masks, 0, masks, 0, COUNT);
            System.arraycopy(other.from, 0, from, 0, COUNT);
            System.arraycopy(other.until, 0, until, 0, COUNT);
        }

        void exchange(int i, int mask, int time, int clocks) {
            masks[i] = mask;
            from[i] = time + 1;
            until[i] = time + clocks;
        }

        int shown(int i, int time) {
            boolean turned = time >= from[i] && time <= until[i];
            return turned ? driven[i] ^ masks[i] : driven[i];
        }

        /** From here on drivers may set theirs for the next clock: what is seen stays. */
        void look(int time) {
            for (int i = 0; i < COUNT; i++) {
                seen[i] = shown(i, time);
            }
        }

        void remember() {
            System.arraycopy(seen, 0, before, 0, COUNT);
        }

        /** The first wire whose driver has set another value there, or COUNT. */
        int firstDifference(Wires other) {
            int i = 0;
            while (i < COUNT && driven[i] == other.driven[i]) {
                i++;
            }
            return i;
        }
    }

    /** THE MASTER and its TRANSFERS. */
    private static final class Master {
        static final int MOST_GAP = 7;
        static final int RESULTS = 4;
        private static final int MOST_TRANSFERS = 60;
        /** The columns; the first ones as result() numbers them. */
        private static final int HOW = 0, GOT = 1, SHOWN_AT = 2, DONE_AT = 3;
        private static final int ADDRESS = 4, IS_WRITE = 5, DATA = 6, KIND = 7, GAP = 8, COLUMNS = 9;
        private static final int IN_ADDRESS = 1, IN_DATA = 2, DONE = 3, DONE_BADLY = 4, CANCELLED = 5;

        final Table rows = new Table(MOST_TRANSFERS, COLUMNS);
        private int inAddress;
        private int inData;
        private int next;
        private int gapGone;
        int done;
        int cancelled;

        void clear() {
            rows.clear();
            inAddress = -1;
            inData = -1;
            next = 0;
            gapGone = 0;
            done = 0;
            cancelled = 0;
        }

        void copyFrom(Master other) {
            rows.copyFrom(other.rows);
            inAddress = other.inAddress;
            inData = other.inData;
            next = other.next;
            gapGone = other.gapGone;
            done = other.done;
            cancelled = other.cancelled;
        }

        int addTransfer(int address, int write, int data, int kind, int gap) {
            int t = rows.add();
            rows.put(t, SHOWN_AT, NONE);
            rows.put(t, DONE_AT, NONE);
            rows.put(t, ADDRESS, address);
            rows.put(t, IS_WRITE, write);
            rows.put(t, DATA, data);
            rows.put(t, KIND, kind);
            rows.put(t, GAP, gap);
            return t;
        }

        boolean isIdle() {
            return done + cancelled == rows.count;
        }

        void pass(Wires wires, int time) {
            if (wires.seen[Wires.READY] != 0) {
                endData(wires, time);
                moveToData(wires);
                beginNext(wires, time);
            } else if (wires.seen[Wires.RESP] != 0 && inAddress >= 0) {
                cancel(wires);
            }
        }

        private void endData(Wires wires, int time) {
            if (inData >= 0) {
                rows.put(inData, HOW, wires.seen[Wires.RESP] != 0 ? DONE_BADLY : DONE);
                rows.put(inData, GOT, wires.seen[Wires.RDATA]);
                rows.put(inData, DONE_AT, time);
                done++;
            }
            inData = -1;
        }

        private void moveToData(Wires wires) {
            inData = inAddress;
            inAddress = -1;
            if (inData >= 0) {
                rows.put(inData, HOW, IN_DATA);
                if (rows.get(inData, IS_WRITE) != 0) {
                    wires.driven[Wires.WDATA] = rows.get(inData, DATA);
                }
            }
        }

        private void beginNext(Wires wires, int time) {
            if (next >= rows.count) {
                wires.driven[Wires.TRANS] = 0;
            } else if (gapGone < rows.get(next, GAP)) {
                gapGone++;
                wires.driven[Wires.TRANS] = 0;
            } else {
                inAddress = next;
                next++;
                gapGone = 0;
                rows.put(inAddress, HOW, IN_ADDRESS);
                rows.put(inAddress, SHOWN_AT, time + 1);
                wires.driven[Wires.ADDR] = rows.get(inAddress, ADDRESS);
                wires.driven[Wires.WRITE] = rows.get(inAddress, IS_WRITE);
                wires.driven[Wires.TRANS] = rows.get(inAddress, KIND);
            }
        }

        /** All behind the one in the ADDRESS phase are still to come, so the next one moves on past them. */
        private void cancel(Wires wires) {
            strike(inAddress);
            inAddress = -1;
            wires.driven[Wires.TRANS] = 0;
            while (next < rows.count && rows.get(next, KIND) == Wires.NEXT_KIND) {
                strike(next);
                next++;
            }
        }

        private void strike(int t) {
            rows.put(t, HOW, CANCELLED);
            cancelled++;
        }
    }

    /** THE BRIDGE: its upper side, the CASE at hand and what is POSTED. */
    private static final class Bridge {
        private static final int FREE = 0, POST = 1, TAKE = 2, WAIT = 3, BAD = 4, WORSE = 5, GOOD = 6;

        final Lower lower = new Lower();
        private final int[] postedAddress = new int[Plan.MOST_DEPTH];
        private final int[] postedData = new int[Plan.MOST_DEPTH];
        int posted;
        int state;
        private int caseAddress;
        private int caseWrite;
        private int caseData;
        private boolean caseBegun;

        void clear() {
            lower.clear();
            posted = 0;
            state = FREE;
            caseAddress = 0;
            caseWrite = 0;
            caseData = 0;
            caseBegun = false;
        }

        void copyFrom(Bridge other) {
            lower.copyFrom(other.lower);
            System.arraycopy(other.postedAddress, 0, postedAddress, 0, Plan.MOST_DEPTH);
            System.arraycopy(other.postedData, 0, postedData, 0, Plan.MOST_DEPTH);
            posted = other.posted;
            state = other.state;
            caseAddress = other.caseAddress;
            caseWrite = other.caseWrite;
            caseData = other.caseData;
            caseBegun = other.caseBegun;
        }

        boolean isIdle() {
            return posted == 0 && lower.phase == Lower.REST && state == FREE;
        }

        void pass(Plan plan, Wires wires, int time) {
            lower.pass(plan, wires, time);
            moveOn(plan, wires);
            if (lower.phase == Lower.REST) {
                beginAct(plan, wires, time);
            }
            boolean busy = state == TAKE || state == WAIT || state == BAD;
            wires.driven[Wires.READY] = busy ? 0 : 1;
            wires.driven[Wires.RESP] = state == BAD || state == WORSE ? 1 : 0;
        }

        private void moveOn(Plan plan, Wires wires) {
            switch (state) {
                case POST:
                    post(wires.seen[Wires.WDATA]);
                    takeCase(plan, wires);
                    break;
                case TAKE:
                    caseData = wires.seen[Wires.WDATA];
                    state = WAIT;
                    break;
                case WAIT:
                    endWait(wires);
                    break;
                case BAD:
                    state = WORSE;
                    break;
                default:
                    takeCase(plan, wires);
                    break;
            }
        }

        private void post(int data) {
            if (posted < Plan.MOST_DEPTH) {
                postedAddress[posted] = caseAddress;
                postedData[posted] = data;
                posted++;
            }
        }

        private void takeCase(Plan plan, Wires wires) {
            if (!Wires.isTransfer(wires.seen[Wires.TRANS])) {
                state = FREE;
                return;
            }
            caseAddress = wires.seen[Wires.ADDR];
            caseWrite = wires.seen[Wires.WRITE] != 0 ? 1 : 0;
            caseBegun = false;
            if (plan.slaveAt(caseAddress) < 0) {
                state = BAD;
            } else if (caseWrite == 0) {
                state = WAIT;
            } else {
                state = posted < plan.depth ? POST : TAKE;
            }
        }

        private void endWait(Wires wires) {
            // While POSTED writes go first, an ACT that is over may be one of theirs.
            if (!caseBegun || lower.ended == Lower.UNDER_WAY) {
                return;
            }
            if (lower.ended != Lower.WELL) {
                state = BAD;
                return;
            }
            state = GOOD;
            if (caseWrite == 0) {
                wires.driven[Wires.RDATA] = lower.got;
            }
        }

        private void beginAct(Plan plan, Wires wires, int time) {
            if (posted > 0) {
                lower.aim(plan.slaveAt(postedAddress[0]), postedAddress[0], 1, postedData[0], 1);
                lower.begin(wires, time);
                dropFirstPosted();
            } else if (state == WAIT && !caseBegun) {
                lower.aim(plan.slaveAt(caseAddress), caseAddress, caseWrite, caseData, 0);
                lower.begin(wires, time);
                caseBegun = true;
            }
        }

        private void dropFirstPosted() {
            posted--;
            for (int i = 0; i < posted; i++) {
                postedAddress[i] = postedAddress[i + 1];
                postedData[i] = postedData[i + 1];
            }
        }
    }

    /** The bridge's LOWER side, with its ACT and THE LOG. */
    private static final class Lower {
        static final int MOST_KEPT = 200;
        static final int REST = 0, SETUP = 1, ACCESS = 2;
        static final int UNDER_WAY = 0, WELL = 1, BY_ERROR = 2, BY_TIMEOUT = 3;
        /** THE LOG's columns, as log() numbers them. */
        static final int SLAVE = 0, ADDRESS = 1, WRITE = 2, DATA = 3, SETUP_AT = 4, OVER_AT = 5, HOW = 6;
        static final int POSTED = 7, COLUMNS = 8;

        final Table acts = new Table(MOST_KEPT, COLUMNS);
        int phase;
        /** How the ACT ended in this clock; UNDER_WAY: none did. */
        int ended;
        int got;
        int late;
        int timeouts;
        int begun;
        private int actSlave;
        private int actAddress;
        private int actWrite;
        private int actData;
        private int actPosted;
        /** The ACT's row of THE LOG, or -1: it was not kept. */
        private int actRow;
        private int accessClocks;

        void clear() {
            acts.clear();
            phase = REST;
            ended = UNDER_WAY;
            got = 0;
            late = 0;
            timeouts = 0;
            begun = 0;
            aim(0, 0, 0, 0, 0);
            actRow = -1;
            accessClocks = 0;
        }

        void copyFrom(Lower other) {
            acts.copyFrom(other.acts);
            phase = other.phase;
            ended = other.ended;
            got = other.got;
            late = other.late;
            timeouts = other.timeouts;
            begun = other.begun;
            aim(other.actSlave, other.actAddress, other.actWrite, other.actData, other.actPosted);
            actRow = other.actRow;
            accessClocks = other.accessClocks;
        }

        void pass(Plan plan, Wires wires, int time) {
            ended = UNDER_WAY;
            if (phase == SETUP) {
                phase = ACCESS;
                accessClocks = 0;
                wires.driven[Wires.ENABLE] = 1;
            } else if (phase == ACCESS) {
                accessClocks++;
                if (wires.seen[Wires.PREADY] != 0) {
                    end(wires, time, wires.seen[Wires.PERROR] != 0 ? BY_ERROR : WELL);
                } else if (accessClocks >= plan.limit) {
                    timeouts++;
                    end(wires, time, BY_TIMEOUT);
                }
            }
        }

        private void end(Wires wires, int time, int how) {
            phase = REST;
            ended = how;
            got = how == WELL ? wires.seen[Wires.PRDATA] : 0;
            wires.driven[Wires.SEL] = 0;
            wires.driven[Wires.ENABLE] = 0;
            if (actPosted != 0 && how != WELL) {
                late++;
            }
            acts.put(actRow, OVER_AT, time);
            acts.put(actRow, HOW, how);
            if (actWrite == 0) {
                acts.put(actRow, DATA, got);
            }
        }

        /** What the ACT is. */
        void aim(int slave, int address, int write, int data, int posted) {
            actSlave = slave;
            actAddress = address;
            actWrite = write;
            actData = data;
            actPosted = posted;
        }

        void begin(Wires wires, int time) {
            phase = SETUP;
            begun++;
            wires.driven[Wires.SEL] = 1 << actSlave;
            wires.driven[Wires.ENABLE] = 0;
            wires.driven[Wires.PADDR] = actAddress;
            wires.driven[Wires.PWRITE] = actWrite;
            if (actWrite != 0) {
                wires.driven[Wires.PWDATA] = actData;
            }
            actRow = acts.add();
            acts.put(actRow, SLAVE, actSlave);
            acts.put(actRow, ADDRESS, actAddress);
            acts.put(actRow, WRITE, actWrite);
            acts.put(actRow, DATA, actWrite != 0 ? actData : 0);
            acts.put(actRow, SETUP_AT, time + 1);
            acts.put(actRow, OVER_AT, NONE);
            acts.put(actRow, POSTED, actPosted);
        }
    }

    /** The SLAVES as they answer on the lower bus. */
    private static final class Slaves {
        private final int[] counted = new int[Plan.MOST_SLAVES];
        private int ready;
        private int error;
        private int data;

        void clear() {
            Arrays.fill(counted, 0);
        }

        void copyFrom(Slaves other) {
            System.arraycopy(other.counted, 0, counted, 0, counted.length);
        }

        void pass(Plan plan, Cells cells, Wires wires) {
            int stays = wires.driven[Wires.PRDATA];
            int chosen = wires.seen[Wires.SEL];
            ready = 0;
            error = 0;
            data = stays;
            // The greatest number is the last one here, so its answer is the one that remains.
            for (int s = 0; s < plan.slaves; s++) {
                if ((chosen >> s & 1) != 0) {
                    ready = 0;
                    error = 0;
                    data = stays;
                    attend(s, plan, cells, wires.seen);
                }
            }
            wires.driven[Wires.PREADY] = ready;
            wires.driven[Wires.PERROR] = error;
            wires.driven[Wires.PRDATA] = data;
        }

        private void attend(int s, Plan plan, Cells cells, int[] seen) {
            boolean enabled = seen[Wires.ENABLE] != 0;
            boolean answered = enabled && seen[Wires.PREADY] != 0;
            if (!enabled) {
                counted[s] = plan.wait[s];
            } else if (!answered && counted[s] > 0) {
                counted[s]--;
            }
            if (!answered && counted[s] == 0 && !plan.broken[s]) {
                act(s, plan, cells, seen);
            }
        }

        private void act(int s, Plan plan, Cells cells, int[] seen) {
            ready = 1;
            if (seen[Wires.PWRITE] != 0) {
                error = cells.write(plan, s, seen[Wires.PADDR], seen[Wires.PWDATA]) ? 0 : 1;
                data = 0;
            } else {
                data = cells.read(plan, s, seen[Wires.PADDR]);
            }
        }
    }

    /** MONITORS of both sides and their FINDINGS. */
    private static final class Monitor {
        static final int RULES = 15;
        private static final int MOST_KEPT = 60;
        private static final int LONG = 100;
        /** The columns, as finding() numbers them. */
        private static final int TIME = 0, RULE = 1, COLUMNS = 2;

        /** How many by rule; at 0 how many of all. */
        final int[] counts = new int[RULES + 1];
        final Table rows = new Table(MOST_KEPT, COLUMNS);
        private boolean dataPhase;
        private boolean writePhase;
        private int lowClocks;

        void clear() {
            Arrays.fill(counts, 0);
            rows.clear();
            dataPhase = false;
            writePhase = false;
            lowClocks = 0;
        }

        void copyFrom(Monitor other) {
            System.arraycopy(other.counts, 0, counts, 0, counts.length);
            rows.copyFrom(other.rows);
            dataPhase = other.dataPhase;
            writePhase = other.writePhase;
            lowClocks = other.lowClocks;
        }

        void judge(Plan plan, Wires wires, int time) {
            if (time == 0) {
                // Nothing is TURNED in clock 0, so its wires are as at first, which breaks no rule.
                return;
            }
            int[] w = wires.seen;
            int[] v = wires.before;
            if (v[Wires.READY] != 0) {
                dataPhase = Wires.isTransfer(v[Wires.TRANS]);
                writePhase = dataPhase && v[Wires.WRITE] != 0;
            }
            lowClocks = w[Wires.READY] == 0 ? lowClocks + 1 : 0;
            for (int rule = 1; rule <= RULES; rule++) {
                boolean broken = rule < 8 ? breaksAbove(rule, w, v) : breaksBelow(rule, plan, w, v);
                if (broken) {
                    note(time, rule);
                }
            }
        }

        private void note(int time, int rule) {
            counts[0]++;
            counts[rule]++;
            int row = rows.add();
            rows.put(row, TIME, time);
            rows.put(row, RULE, rule);
        }

        private boolean breaksAbove(int rule, int[] w, int[] v) {
            switch (rule) {
                case 1: return leavesAddress(w, v);
                case 2: return followsBadly(w, v);
                case 3: return dataPhase && writePhase && v[Wires.READY] == 0 && changed(Wires.WDATA, w, v);
                case 4: return isSecondOfTwo(w) != isFirstOfTwo(v);
                case 5: return w[Wires.RESP] != 0 && !dataPhase;
                case 6: return w[Wires.READY] == 0 && !dataPhase;
                case 7: return lowClocks == LONG;
                default: return false;
            }
        }

        private boolean breaksBelow(int rule, Plan plan, int[] w, int[] v) {
            boolean enabled = w[Wires.ENABLE] != 0;
            switch (rule) {
                case 8: return selectsBadly(plan, w[Wires.SEL]);
                case 9: return enabled && w[Wires.SEL] == 0;
                case 10: return enabled && changed(Wires.SEL, w, v);
                case 11: return v[Wires.SEL] != 0 && v[Wires.ENABLE] == 0 && breaksOff(w, v);
                case 12: return v[Wires.ENABLE] != 0 && v[Wires.PREADY] == 0 && breaksOff(w, v);
                case 13: return enabled && w[Wires.SEL] != 0 && !changed(Wires.SEL, w, v) && changesAct(w, v);
                case 14: return v[Wires.ENABLE] != 0 && v[Wires.PREADY] != 0 && enabled;
                case 15: return enabled && !isAimed(plan, w);
                default: return false;
            }
        }

        private static boolean changed(int wire, int[] w, int[] v) {
            return w[wire] != v[wire];
        }

        private static boolean leavesAddress(int[] w, int[] v) {
            return v[Wires.READY] == 0 && v[Wires.RESP] == 0 && Wires.isTransfer(v[Wires.TRANS])
                && (changed(Wires.ADDR, w, v) || changed(Wires.WRITE, w, v) || changed(Wires.TRANS, w, v));
        }

        private static boolean followsBadly(int[] w, int[] v) {
            return w[Wires.TRANS] == Wires.NEXT_KIND && v[Wires.READY] != 0
                && (!Wires.isTransfer(v[Wires.TRANS])
                    || w[Wires.ADDR] != v[Wires.ADDR] + Plan.WORD_BYTES
                    || changed(Wires.WRITE, w, v));
        }

        private static boolean isFirstOfTwo(int[] row) {
            return row[Wires.RESP] != 0 && row[Wires.READY] == 0;
        }

        private static boolean isSecondOfTwo(int[] row) {
            return row[Wires.RESP] != 0 && row[Wires.READY] != 0;
        }

        private static boolean selectsBadly(Plan plan, int chosen) {
            return Integer.bitCount(chosen) > 1 || chosen >>> plan.slaves != 0;
        }

        private static boolean breaksOff(int[] w, int[] v) {
            return changed(Wires.SEL, w, v) || w[Wires.ENABLE] == 0;
        }

        private static boolean changesAct(int[] w, int[] v) {
            return changed(Wires.PADDR, w, v) || changed(Wires.PWRITE, w, v)
                || w[Wires.PWRITE] != 0 && changed(Wires.PWDATA, w, v);
        }

        private static boolean isAimed(Plan plan, int[] w) {
            int owner = plan.slaveAt(w[Wires.PADDR]);
            return owner >= 0 && (w[Wires.SEL] >> owner & 1) != 0;
        }
    }

    /** All that reset() makes anew. */
    private static final class Machine {
        private static final int VALUE_DIFFERS = 15;
        private static final int CLOCK_DIFFERS = 16;

        final Wires wires = new Wires();
        final Cells cells = new Cells();
        final Master master = new Master();
        final Bridge bridge = new Bridge();
        final Slaves slaves = new Slaves();
        final Monitor monitor = new Monitor();
        int time;

        void clear(Plan plan) {
            wires.clear();
            cells.clear(plan);
            master.clear();
            bridge.clear();
            slaves.clear();
            monitor.clear();
            time = 0;
        }

        void copyFrom(Machine other) {
            wires.copyFrom(other.wires);
            cells.copyFrom(other.cells);
            master.copyFrom(other.master);
            bridge.copyFrom(other.bridge);
            slaves.copyFrom(other.slaves);
            monitor.copyFrom(other.monitor);
            time = other.time;
        }

        boolean isAtRest() {
            return master.isIdle() && bridge.isIdle();
        }

        void tick(Plan plan) {
            wires.look(time);
            monitor.judge(plan, wires, time);
            master.pass(wires, time);
            bridge.pass(plan, wires, time);
            slaves.pass(plan, cells, wires);
            cells.countUp(plan, 1);
            wires.remember();
            time++;
        }

        int firstDifference(Machine other, int registers) {
            int wire = wires.firstDifference(other.wires);
            if (wire < Wires.COUNT) {
                return wire;
            }
            for (int r = 0; r < registers; r++) {
                if (cells.held[r] != other.cells.held[r]) {
                    return VALUE_DIFFERS;
                }
            }
            return time != other.time ? CLOCK_DIFFERS : NONE;
        }
    }
}
