import java.util.ArrayDeque;
import java.util.ArrayList;
import java.util.List;

/**
 * The document once more, in another manner, to compare with: wires of all clocks are kept and
 * judged only when asked; COUNTERS are a value and the clock in which they had it; what is kept is
 * the list of calls that led there, played again.
 */
final class Twin {
    private static final int READY = 4;

    private static final class Slave {
        int first, last, wait, count;
        boolean broken;

        boolean has(int address) {
            return address >= first && address <= last + 3;
        }
    }

    private static final class Cell {
        int word, kind, begin, value, since;
        boolean spent;
        Slave owner;

        int at(int clock) {
            return kind == 4 ? value + (clock - since) : value;
        }

        void restart() {
            value = begin;
            since = 0;
            spent = false;
        }
    }

    private static final class Move {
        int address, data, kind, gap, waited, how, got, shown = -6, done = -6;
        boolean write;
    }

    private static final class Act {
        int slave, address, data, setup, over = -6, how, access;
        boolean write, posted;
    }

    private static final class Kept {
        List<int[]> calls;
        int changes;
    }

    private final List<Slave> slaves = new ArrayList<>();
    private final List<Cell> cells = new ArrayList<>();
    private final Kept[] kept = new Kept[3];
    private int depth, limit = 32, changes, status;

    private List<int[]> calls = new ArrayList<>();
    private int clock;
    private int[] set;
    private int[][] turned;
    private List<int[]> seen;
    private List<Move> moves;
    private Move inAddress, inData;
    private String state, lower;
    private Move atHand;
    private Act caseAct, act;
    private ArrayDeque<int[]> posted;
    private List<Act> acts;
    private int late, timeouts;

    Twin() {
        anew();
    }

    private void anew() {
        calls = new ArrayList<>();
        clock = 0;
        set = new int[15];
        set[READY] = 1;
        turned = new int[15][];
        seen = new ArrayList<>();
        moves = new ArrayList<>();
        inAddress = null;
        inData = null;
        state = "FREE";
        lower = "REST";
        atHand = null;
        caseAct = null;
        act = null;
        posted = new ArrayDeque<>();
        acts = new ArrayList<>();
        late = 0;
        timeouts = 0;
        for (Cell c : cells) {
            c.restart();
        }
        for (Slave s : slaves) {
            s.count = 0;
        }
    }

    private int say(int answer) {
        status = 0;
        return answer;
    }

    private int no(int reason) {
        status = reason;
        return reason;
    }

    private int zero(int reason) {
        status = reason;
        return 0;
    }

    private static boolean word(int a) {
        return a >= 0 && a <= 65532 && (a & 3) == 0;
    }

    private Slave slaveAt(int address) {
        for (Slave s : slaves) {
            if (s.has(address)) {
                return s;
            }
        }
        return null;
    }

    private Cell cellAt(int word) {
        for (Cell c : cells) {
            if (c.word == word) {
                return c;
            }
        }
        return null;
    }

    int slave(int first, int last, int wait, boolean broken) {
        if (!word(first) || !word(last) || last < first || wait < 0 || wait > 15) return no(-2);
        if (clock != 0) return no(-3);
        if (slaves.size() == 8) return no(-4);
        for (int a = first; a <= last; a += 4) {
            if (slaveAt(a) != null) return no(-5);
        }
        Slave s = new Slave();
        s.first = first;
        s.last = last;
        s.wait = wait;
        s.broken = broken;
        slaves.add(s);
        changes++;
        return say(slaves.size() - 1);
    }

    int register(int word, int kind, int value) {
        if (!word(word) || kind < 0 || kind > 7 || kind == 7 && value != 0 && value != 1) return no(-2);
        if (clock != 0) return no(-3);
        if (cells.size() == 48) return no(-4);
        if (slaveAt(word) == null || cellAt(word) != null) return no(-5);
        Cell c = new Cell();
        c.word = word;
        c.kind = kind;
        c.begin = value;
        c.value = value;
        c.owner = slaveAt(word);
        cells.add(c);
        changes++;
        return say(cells.size());
    }

    int depth(int n) {
        if (n < 0 || n > 4) return no(-2);
        if (clock != 0) return no(-3);
        int old = depth;
        depth = n;
        changes += old == n ? 0 : 1;
        return say(old);
    }

    int limit(int n) {
        if (n < 4 || n > 60) return no(-2);
        if (clock != 0) return no(-3);
        int old = limit;
        limit = n;
        changes += old == n ? 0 : 1;
        return say(old);
    }

    int reset() {
        int was = clock;
        anew();
        return say(was);
    }

    int transfer(int address, boolean write, int data, int kind, int gap) {
        if (address < 0 || address > 65535 || kind != 2 && kind != 3 || gap < 0 || gap > 7) return no(-2);
        if (moves.size() == 60) return no(-4);
        calls.add(new int[] {0, address, write ? 1 : 0, data, kind, gap});
        Move m = new Move();
        m.address = address;
        m.write = write;
        m.data = data;
        m.kind = kind;
        m.gap = gap;
        moves.add(m);
        return say(moves.size() - 1);
    }

    int clock(int n) {
        if (n < 0 || n > 500) return no(-2);
        for (int i = 0; i < n; i++) {
            step();
        }
        return say(clock);
    }

    int finish(int n) {
        if (n < 0 || n > 2000) return no(-2);
        int gone = 0;
        for (; gone < n; gone++) {
            boolean open = !posted.isEmpty() || !lower.equals("REST") || !state.equals("FREE");
            for (Move m : moves) {
                open |= m.how < 3;
            }
            if (!open) break;
            step();
        }
        return say(gone);
    }

    int turn(int wire, int mask, int clocks) {
        if (wire < 0 || wire > 14) return no(-1);
        if (clocks < 1 || clocks > 100) return no(-2);
        calls.add(new int[] {1, wire, mask, clocks});
        turned[wire] = new int[] {mask, clock + 1, clock + clocks};
        return say(1);
    }

    private int shown(int i) {
        int[] t = turned[i];
        return t != null && clock >= t[1] && clock <= t[2] ? set[i] ^ t[0] : set[i];
    }

    private void step() {
        calls.add(new int[] {2});
        int[] w = new int[15];
        for (int i = 0; i < 15; i++) {
            w[i] = shown(i);
        }
        seen.add(w);
        masterSteps(w);
        bridgeSteps(w);
        slavesStep(w);
        clock++;
    }

    private void masterSteps(int[] w) {
        if (w[4] == 0 && w[5] == 0) return;
        if (w[4] == 0) {
            if (inAddress == null) return;
            int i = moves.indexOf(inAddress);
            do {
                moves.get(i).how = 5;
                i++;
            } while (i < moves.size() && moves.get(i).kind == 3);
            inAddress = null;
            set[2] = 0;
            return;
        }
        if (inData != null) {
            inData.how = w[5] != 0 ? 4 : 3;
            inData.got = w[6];
            inData.done = clock;
        }
        inData = inAddress;
        if (inData != null) {
            inData.how = 2;
            if (inData.write) set[3] = inData.data;
        }
        inAddress = null;
        set[2] = 0;
        for (Move m : moves) {
            if (m.how == 0) {
                if (m.waited == m.gap) {
                    inAddress = m;
                    m.how = 1;
                    m.shown = clock + 1;
                    set[0] = m.address;
                    set[1] = m.write ? 1 : 0;
                    set[2] = m.kind;
                }
                m.waited++;
                return;
            }
        }
    }

    private void bridgeSteps(int[] w) {
        if (lower.equals("SETUP")) {
            lower = "ACCESS";
            set[8] = 1;
        } else if (lower.equals("ACCESS")) {
            act.access++;
            if (w[12] != 0) {
                overNow(w[13] != 0 ? 2 : 1, w);
            } else if (act.access == limit) {
                timeouts++;
                overNow(3, w);
            }
        }
        switch (state) {
            case "TAKE" -> {
                atHand.data = w[3];
                state = "WAIT";
            }
            case "WAIT" -> {
                if (caseAct != null && caseAct.how != 0) {
                    state = caseAct.how == 1 ? "GOOD" : "BAD";
                    if (caseAct.how == 1 && !caseAct.write) set[6] = caseAct.data;
                }
            }
            case "BAD" -> state = "WORSE";
            default -> {
                if (state.equals("POST")) posted.addLast(new int[] {atHand.address, w[3]});
                state = nextCase(w);
            }
        }
        if (lower.equals("REST")) {
            if (!posted.isEmpty()) {
                int[] p = posted.removeFirst();
                beginAct(p[0], true, p[1], true);
            } else if (state.equals("WAIT") && caseAct == null) {
                beginAct(atHand.address, atHand.write, atHand.data, false);
                caseAct = act;
            }
        }
        set[4] = List.of("TAKE", "WAIT", "BAD").contains(state) ? 0 : 1;
        set[5] = List.of("BAD", "WORSE").contains(state) ? 1 : 0;
    }

    private String nextCase(int[] w) {
        if (w[2] != 2 && w[2] != 3) return "FREE";
        atHand = new Move();
        atHand.address = w[0];
        atHand.write = w[1] != 0;
        caseAct = null;
        if (slaveAt(w[0]) == null) return "BAD";
        if (!atHand.write) return "WAIT";
        return posted.size() < depth ? "POST" : "TAKE";
    }

    private void overNow(int how, int[] w) {
        lower = "REST";
        set[7] = 0;
        set[8] = 0;
        act.how = how;
        act.over = clock;
        if (!act.write) act.data = how == 1 ? w[14] : 0;
        if (act.posted && how != 1) late++;
    }

    private void beginAct(int address, boolean write, int data, boolean wasPosted) {
        act = new Act();
        act.slave = slaves.indexOf(slaveAt(address));
        act.address = address;
        act.write = write;
        act.data = write ? data : 0;
        act.posted = wasPosted;
        act.setup = clock + 1;
        acts.add(act);
        lower = "SETUP";
        set[7] = 1 << act.slave;
        set[8] = 0;
        set[9] = address;
        set[10] = write ? 1 : 0;
        if (write) set[11] = data;
    }

    private void slavesStep(int[] w) {
        int[] answer = {0, 0, set[14]};
        for (int i = 0; i < slaves.size(); i++) {
            Slave s = slaves.get(i);
            if ((w[7] & 1 << i) == 0) continue;
            answer = new int[] {0, 0, set[14]};
            if (w[8] == 0) {
                s.count = s.wait;
            } else if (w[12] == 0) {
                s.count = Math.max(0, s.count - 1);
            }
            if ((w[8] == 0 || w[12] == 0) && s.count == 0 && !s.broken) {
                int[] done = play(cells, s, w[9], w[10] != 0, w[11], clock);
                answer = new int[] {1, done[0], done[1]};
            }
        }
        System.arraycopy(answer, 0, set, 12, 3);
    }

    /** What a SLAVE does in a clock: ERROR (1, 0) and what it gives. */
    private static int[] play(List<Cell> all, Slave s, int address, boolean write, int data, int now) {
        Cell c = null;
        boolean guarded = false;
        for (Cell other : all) {
            if (other.owner == s && other.word == address) c = other;
            guarded |= other.owner == s && other.word != address && other.kind == 7 && other.value != 0;
        }
        if (!write) {
            int gives = c == null ? 0 : c.at(now);
            if (c != null && c.kind == 6) c.value = 0;
            return new int[] {0, gives};
        }
        boolean error = c == null || guarded || c.kind == 5 && c.spent || c.kind == 7 && (data & ~1) != 0;
        if (!error) {
            switch (c.kind) {
                case 1 -> { }
                case 2 -> c.value |= data;
                case 3 -> c.value &= ~data;
                default -> c.value = data;
            }
            c.since = now + 1;
            c.spent = true;
        }
        return new int[] {error ? 1 : 0, 0};
    }

    int wire(int i) {
        return i < 0 || i > 14 ? zero(-1) : say(shown(i));
    }

    int under(int i) {
        return i < 0 || i > 14 ? zero(-1) : say(set[i]);
    }

    int result(int t, int what) {
        if (t < 0 || t >= moves.size()) return zero(-1);
        if (what < 0 || what > 3) return zero(-2);
        Move m = moves.get(t);
        return say(new int[] {m.how, m.got, m.shown, m.done}[what]);
    }

    int log(int i, int what) {
        if (i < 0 || i >= Math.min(200, acts.size())) return zero(-1);
        if (what < 0 || what > 7) return zero(-2);
        Act a = acts.get(i);
        int[] row = {a.slave, a.address, a.write ? 1 : 0, a.data, a.setup, a.over, a.how, a.posted ? 1 : 0};
        return say(row[what]);
    }

    private List<int[]> judged() {
        List<int[]> found = new ArrayList<>();
        boolean d = false, dw = false;
        int low = 0;
        for (int c = 0; c < seen.size(); c++) {
            int[] w = seen.get(c);
            int[] v = c == 0 ? null : seen.get(c - 1);
            if (v != null && v[4] != 0) {
                d = v[2] == 2 || v[2] == 3;
                dw = d && v[1] != 0;
            }
            low = w[4] == 0 ? low + 1 : 0;
            boolean[] bad = new boolean[16];
            if (v != null) judgeWithBefore(bad, w, v, d && dw);
            bad[5] = w[5] != 0 && !d;
            bad[6] = w[4] == 0 && !d;
            bad[7] = low == 100;
            int bits = 0;
            boolean stranger = false, aimed = false;
            for (int b = 0; b < 32; b++) {
                if ((w[7] >>> b & 1) == 1) {
                    bits++;
                    stranger |= b >= slaves.size();
                    aimed |= b < slaves.size() && slaves.get(b).has(w[9]);
                }
            }
            bad[8] = bits > 1 || stranger;
            bad[9] = w[8] != 0 && w[7] == 0;
            bad[15] = w[8] != 0 && !aimed;
            for (int r = 1; r <= 15; r++) {
                if (bad[r]) found.add(new int[] {c, r});
            }
        }
        return found;
    }

    private static void judgeWithBefore(boolean[] bad, int[] w, int[] v, boolean writing) {
        boolean sameSel = w[7] == v[7];
        bad[1] = v[4] == 0 && v[5] == 0 && (v[2] == 2 || v[2] == 3)
            && !(w[0] == v[0] && w[1] == v[1] && w[2] == v[2]);
        bad[2] = w[2] == 3 && v[4] != 0
            && !((v[2] == 2 || v[2] == 3) && w[0] == v[0] + 4 && w[1] == v[1]);
        bad[3] = writing && v[4] == 0 && w[3] != v[3];
        boolean first = v[5] != 0 && v[4] == 0;
        boolean second = w[5] != 0 && w[4] != 0;
        bad[4] = second && !first || first && !second;
        bad[10] = w[8] != 0 && !sameSel;
        bad[11] = v[7] != 0 && v[8] == 0 && (!sameSel || w[8] == 0);
        bad[12] = v[8] != 0 && v[12] == 0 && (!sameSel || w[8] == 0);
        bad[13] = w[8] != 0 && w[7] != 0 && sameSel
            && (w[9] != v[9] || w[10] != v[10] || w[10] != 0 && w[11] != v[11]);
        bad[14] = v[8] != 0 && v[12] != 0 && w[8] != 0;
    }

    int findings(int rule) {
        if (rule < 0 || rule > 15) return no(-2);
        int n = 0;
        for (int[] f : judged()) {
            if (rule == 0 || f[1] == rule) n++;
        }
        return say(n);
    }

    int finding(int i, int what) {
        List<int[]> found = judged();
        if (i < 0 || i >= Math.min(60, found.size())) return no(-1);
        if (what < 0 || what > 1) return no(-2);
        return say(found.get(i)[what]);
    }

    int value(int word) {
        Cell c = cellAt(word);
        return c == null ? zero(-1) : say(c.at(clock));
    }

    int decode(int address) {
        Slave s = slaveAt(address);
        return say(s == null ? -6 : slaves.indexOf(s));
    }

    int bridge(int what) {
        return switch (what) {
            case 0 -> say(List.of("FREE", "POST", "TAKE", "WAIT", "BAD", "WORSE", "GOOD").indexOf(state));
            case 1 -> say(List.of("REST", "SETUP", "ACCESS").indexOf(lower));
            case 2 -> say(posted.size());
            case 3 -> say(late);
            case 4 -> say(timeouts);
            case 5 -> say(acts.size());
            default -> no(-2);
        };
    }

    int again() {
        if (acts.size() > 200) return no(-4);
        List<Cell> own = new ArrayList<>();
        for (Cell c : cells) {
            Cell o = new Cell();
            o.word = c.word;
            o.kind = c.kind;
            o.begin = c.begin;
            o.owner = c.owner;
            o.restart();
            own.add(o);
        }
        for (int i = 0; i < acts.size(); i++) {
            Act a = acts.get(i);
            if (a.how != 1 && a.how != 2) continue;
            int[] done = play(own, slaves.get(a.slave), a.address, a.write, a.data, a.over - 1);
            if ((done[0] != 0) != (a.how == 2)) return say(i);
            if (!a.write && a.how == 1 && done[1] != a.data) return say(i);
        }
        return say(-6);
    }

    int keep(int k) {
        if (k < 0 || k > 2) return no(-1);
        kept[k] = new Kept();
        kept[k].calls = new ArrayList<>(calls);
        kept[k].changes = changes;
        return say(1);
    }

    private int refusedPlace(int k) {
        if (k < 0 || k > 2 || kept[k] == null) return -1;
        return kept[k].changes != changes ? -3 : 0;
    }

    private void play(List<int[]> list) {
        anew();
        for (int[] c : list) {
            switch (c[0]) {
                case 0 -> transfer(c[1], c[2] != 0, c[3], c[4], c[5]);
                case 1 -> turn(c[1], c[2], c[3]);
                default -> step();
            }
        }
    }

    int back(int k) {
        int reason = refusedPlace(k);
        if (reason != 0) return no(reason);
        play(kept[k].calls);
        return say(clock);
    }

    int differs(int k) {
        int reason = refusedPlace(k);
        if (reason != 0) return no(reason);
        List<int[]> mine = new ArrayList<>(calls);
        int[] here = picture();
        play(kept[k].calls);
        int[] there = picture();
        play(mine);
        for (int i = 0; i < here.length; i++) {
            if (here[i] != there[i]) {
                return say(i < 15 ? i : i < here.length - 1 ? 15 : 16);
            }
        }
        return say(-6);
    }

    private int[] picture() {
        int[] row = new int[16 + cells.size()];
        System.arraycopy(set, 0, row, 0, 15);
        for (int i = 0; i < cells.size(); i++) {
            row[15 + i] = cells.get(i).at(clock);
        }
        row[15 + cells.size()] = clock;
        return row;
    }

    int told(int what) {
        int done = 0, cancelled = 0;
        for (Move m : moves) {
            done += m.how == 3 || m.how == 4 ? 1 : 0;
            cancelled += m.how == 5 ? 1 : 0;
        }
        return switch (what) {
            case 0 -> say(slaves.size());
            case 1 -> say(cells.size());
            case 2 -> say(moves.size());
            case 3 -> say(done);
            case 4 -> say(cancelled);
            case 5 -> say(Math.min(200, acts.size()));
            case 6 -> say(Math.min(60, judged().size()));
            case 7 -> say(clock);
            default -> no(-2);
        };
    }

    int status() {
        return status;
    }
}
