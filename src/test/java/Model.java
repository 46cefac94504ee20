import java.util.ArrayList;
import java.util.HashSet;
import java.util.List;
import java.util.Set;

/**
 * The document in its slowest form, for comparison: every row of moves is gone through, every set of
 * strips tried, every height hung. It shares no code with RopeMoon.
 */
final class Model {
    /** One strip of the plain. */
    static final class Strip {
        int crop;
        int reapers = 2;
        int tree;
        int farm;
        int reaped;

        Strip copy() {
            Strip s = new Strip();
            s.crop = crop;
            s.reapers = reapers;
            s.tree = tree;
            s.farm = farm;
            s.reaped = reaped;
            return s;
        }
    }

    /** All that an image holds. */
    static final class State {
        final List<Strip> strips = new ArrayList<>();
        int at;
        int height = 6;
        int power = 6;
        int fade = 1;
        int oil = 60;
        int moths;
        int cross;
        int minute;
        int lines;
        int[] bids = {1, 1, 1, 1, 1, 1};

        State copy() {
            State c = new State();
            for (Strip s : strips) {
                c.strips.add(s.copy());
            }
            c.at = at;
            c.height = height;
            c.power = power;
            c.fade = fade;
            c.oil = oil;
            c.moths = moths;
            c.cross = cross;
            c.minute = minute;
            c.lines = lines;
            c.bids = bids.clone();
            return c;
        }

        boolean has(int s) {
            return s >= 0 && s < strips.size();
        }

        int far(int over, int s) {
            return Math.max(0, power - fade * Math.abs(over - s));
        }

        boolean shade(int over, int s) {
            for (int t = 0; t < strips.size(); t++) {
                boolean between = t > over && t < s || t > s && t < over;
                if (between && strips.get(t).tree * Math.abs(over - s) > height * Math.abs(t - s)) {
                    return true;
                }
            }
            return false;
        }

        int light(int over, int s) {
            return shade(over, s) ? 0 : far(over, s);
        }

        int why(long move) {
            if (move < 0 || move > 2 || strips.isEmpty()) {
                return 1;
            }
            if (move == 1 && at == 0 || move == 2 && at == strips.size() - 1) {
                return 1;
            }
            return oil == 0 ? 2 : minute == 9999 ? 3 : 0;
        }

        int go(long move, boolean reap) {
            at += move == 1 ? -1 : move == 2 ? 1 : 0;
            oil--;
            minute++;
            int all = 0;
            for (int s = 0; reap && s < strips.size(); s++) {
                Strip it = strips.get(s);
                int cut = Math.min(it.reapers, Math.min(light(at, s), it.crop));
                it.crop -= cut;
                it.reaped += cut;
                all += cut;
            }
            return all;
        }
    }

    /** A row of moves with the state behind it. */
    record Way(List<Integer> moves, State end, int over) { }

    private byte[] tape = new byte[0];
    private int fault = 0;
    private int place = -1;
    private State now = new State();
    private final State[] images = new State[2];
    private final long[][] rows = new long[4][];
    private final int[] sorts = new int[4];

    int feed(int... ints) {
        if (tape.length + 20 > 900) {
            return -5;
        }
        byte[] longer = java.util.Arrays.copyOf(tape, tape.length + 20);
        for (int i = 0; i < 20; i++) {
            longer[tape.length + i] = (byte) (ints[i / 4] >> 24 - 8 * (i % 4));
        }
        tape = longer;
        return tape.length;
    }

    int plain(int n) {
        if (n < 0 || n > tape.length) {
            return -3;
        }
        StringBuilder text = new StringBuilder();
        for (int i = 0; i < n; i++) {
            text.append((char) (tape[i] & 255));
        }
        tape = new byte[0];
        ModelText read = new ModelText(text.toString());
        fault = read.fault;
        place = read.place;
        if (fault != 0) {
            return -30 - fault;
        }
        now = read.state;
        return now.lines;
    }

    int fault(int what) {
        return what == 0 ? fault : what == 1 ? place : -1;
    }

    int strip(int s, int what) {
        if (!now.has(s) || what < 0 || what > 5) {
            return -2;
        }
        Strip it = now.strips.get(s);
        return new int[] {it.crop, it.reapers, it.tree, it.farm, it.reaped, now.light(now.at, s)}[what];
    }

    int farm(int f, int what) {
        if (f < 0 || f > 5 || what < 0 || what > 3) {
            return -2;
        }
        int[] all = {0, 0, now.bids[f], 0};
        for (int s = 0; s < now.strips.size(); s++) {
            if (now.strips.get(s).farm == f) {
                all[0] += now.strips.get(s).reaped;
                all[1] += now.strips.get(s).crop;
                all[3] += 1 << s;
            }
        }
        return all[what];
    }

    int light(int over, int s) {
        return now.has(over) && now.has(s) ? now.light(over, s) : -2;
    }

    int lit(int over) {
        if (!now.has(over)) {
            return -2;
        }
        int bits = 0;
        for (int s = 0; s < now.strips.size(); s++) {
            bits += now.light(over, s) > 0 ? 1 << s : 0;
        }
        return bits;
    }

    int shaded(int over) {
        if (!now.has(over)) {
            return -2;
        }
        int bits = 0;
        for (int s = 0; s < now.strips.size(); s++) {
            bits += now.far(over, s) > 0 && now.shade(over, s) ? 1 << s : 0;
        }
        return bits;
    }

    int high(int over, int s) {
        if (!now.has(over) || !now.has(s)) {
            return -2;
        }
        State hung = now.copy();
        for (hung.height = 1; hung.height <= 99; hung.height++) {
            if (hung.light(over, s) > 0) {
                return hung.height;
            }
        }
        return -1;
    }

    private boolean others(int set) {
        return (set & ~((1 << now.strips.size()) - 1)) != 0;
    }

    int highFor(int set, boolean over) {
        if (others(set) || set == 0) {
            return -3;
        }
        State hung = now.copy();
        for (hung.height = 1; hung.height <= 99; hung.height++) {
            for (int o = 0; o < hung.strips.size(); o++) {
                boolean all = true;
                for (int s = 0; s < hung.strips.size(); s++) {
                    all &= (set >> s & 1) == 0 || hung.light(o, s) > 0;
                }
                if (all) {
                    return over ? o : hung.height;
                }
            }
        }
        return -1;
    }

    int height(int h) {
        if (h < 1 || h > 30) {
            return -3;
        }
        int was = now.height;
        now.height = h;
        return was;
    }

    int fell(int s) {
        if (!now.has(s)) {
            return -2;
        }
        int was = now.strips.get(s).tree;
        now.strips.get(s).tree = 0;
        return was == 0 ? -5 : was;
    }

    int minute(int move) {
        int why = now.why(move);
        return why == 1 ? -2 : why > 1 ? -5 : now.go(move, true);
    }

    private boolean noRow(int row) {
        return row < 0 || row > 3;
    }

    int judge(int row, int what) {
        if (noRow(row) || what < 0 || what > 3) {
            return -2;
        }
        if (rows[row] == null) {
            return -6;
        }
        State s = now.copy();
        int all = 0;
        int first = -1;
        int why = 0;
        for (int i = 0; i < rows[row].length && first < 0; i++) {
            why = s.why(rows[row][i]);
            if (why != 0) {
                first = i;
            } else {
                all += s.go(rows[row][i], true);
            }
        }
        return new int[] {first, why, all, s.strips.isEmpty() ? -1 : s.at}[what];
    }

    int perform(int row) {
        if (noRow(row)) {
            return -2;
        }
        if (rows[row] == null) {
            return -6;
        }
        int made = 0;
        while (made < rows[row].length && now.why(rows[row][made]) == 0) {
            now.go(rows[row][made], true);
            made++;
        }
        return made;
    }

    int fill(int n) {
        if (n < 0 || n > 99) {
            return -3;
        }
        now.oil = Math.min(999, now.oil + n);
        return now.oil;
    }

    int night(int seed, int minutes) {
        if (minutes < 1 || minutes > 60) {
            return -3;
        }
        if (now.strips.isEmpty() || now.oil == 0 || now.minute + Math.min(minutes, now.oil) > 9999) {
            return -5;
        }
        int x = seed;
        int all = 0;
        for (int i = 0; i < minutes && now.oil > 0; i++) {
            x = 1103515245 * x + 12345;
            int move = (x >>> 16) % 3;
            x = 1103515245 * x + 12345;
            all += now.go(now.why(move) == 0 ? move : 0, (x >>> 16) % 100 >= now.moths);
        }
        return all;
    }

    int walk(int from, int to, int n) {
        if (!now.has(from) || !now.has(to)) {
            return -2;
        }
        if (n < 0 || n > now.strips.get(from).reapers) {
            return -3;
        }
        if (from == to) {
            return 0;
        }
        if (now.strips.get(to).reapers + n > 9) {
            return -4;
        }
        now.strips.get(from).reapers -= n;
        now.strips.get(to).reapers += n;
        return 0;
    }

    /** All rows of exactly m moves that can be, in their order. */
    private static List<Way> ways(State from, int m) {
        List<Way> all = new ArrayList<>();
        all.add(new Way(List.of(), from.copy(), 0));
        for (int i = 0; i < m; i++) {
            List<Way> longer = new ArrayList<>();
            for (Way w : all) {
                for (int move = 0; move < 3; move++) {
                    if (w.end.why(move) == 0) {
                        State s = w.end.copy();
                        s.go(move, true);
                        List<Integer> moves = new ArrayList<>(w.moves);
                        moves.add(move);
                        longer.add(new Way(moves, s, w.over | 1 << s.at));
                    }
                }
            }
            all = longer;
        }
        return all;
    }

    private static int possible(State s, int m) {
        return Math.min(m, Math.min(s.oil, 9999 - s.minute));
    }

    private static int[] got(State from, State to) {
        int[] got = new int[from.strips.size()];
        for (int s = 0; s < got.length; s++) {
            got[s] = from.strips.get(s).crop - to.strips.get(s).crop;
        }
        return got;
    }

    /** The first and second number by which ways are compared; goal 0 most, 1 dearest, 2 fairest, 3 alone. */
    private static int[] worth(State from, Way way, int goal, int farm) {
        int[] got = got(from, way.end);
        int[] ofFarm = new int[6];
        boolean[] has = new boolean[6];
        int all = 0;
        int bids = 0;
        for (int s = 0; s < got.length; s++) {
            int f = from.strips.get(s).farm;
            ofFarm[f] += got[s];
            has[f] = true;
            all += got[s];
            bids += got[s] * from.bids[f];
        }
        int fewest = Integer.MAX_VALUE;
        for (int f = 0; f < 6; f++) {
            fewest = has[f] ? Math.min(fewest, ofFarm[f]) : fewest;
        }
        return switch (goal) {
            case 0 -> new int[] {all, 0};
            case 1 -> new int[] {bids, 0};
            case 2 -> new int[] {fewest, all};
            default -> new int[] {ofFarm[farm], 0};
        };
    }

    private static Way best(State from, int m, int goal, int farm) {
        Way best = null;
        int[] worth = {-1, -1};
        for (Way w : ways(from, possible(from, m))) {
            int[] is = worth(from, w, goal, farm);
            if (is[0] > worth[0] || is[0] == worth[0] && is[1] > worth[1]) {
                best = w;
                worth = is;
            }
        }
        return best;
    }

    private int sought(int goal, int farm, int m, int what) {
        boolean two = goal == 0 || goal == 2;
        if (farm < 0 || farm > 5 || !(what == 0 || what == 1 && two || what >= 10 && what <= 17)) {
            return -2;
        }
        if (m < 1 || m > 8) {
            return -3;
        }
        if (now.strips.isEmpty()) {
            return -5;
        }
        Way best = best(now, m, goal, farm);
        if (what >= 10) {
            return what - 10 < best.moves.size() ? best.moves.get(what - 10) : -1;
        }
        if (goal == 0 && what == 1) {
            return best.moves.size();
        }
        return worth(now, best, goal, farm)[what];
    }

    int most(int m, int what) {
        return sought(0, 0, m, what);
    }

    int dearest(int m, int what) {
        return sought(1, 0, m, what);
    }

    int fairest(int m, int what) {
        return sought(2, 0, m, what);
    }

    int alone(int f, int m, int what) {
        return sought(3, f, m, what);
    }

    private static int others(State from, Way way, int farm) {
        int[] got = got(from, way.end);
        int bids = 0;
        for (int s = 0; s < got.length; s++) {
            int f = from.strips.get(s).farm;
            bids += f == farm ? 0 : got[s] * from.bids[f];
        }
        return bids;
    }

    int pays(int f, int m) {
        if (f < 0 || f > 5) {
            return -2;
        }
        if (m < 1 || m > 8) {
            return -3;
        }
        if (now.strips.isEmpty()) {
            return -5;
        }
        State without = now.copy();
        without.bids[f] = 0;
        return others(now, best(without, m, 1, 0), f) - others(now, best(now, m, 1, 0), f);
    }

    private static int mostOf(State s, int m) {
        return worth(s, best(s, m, 0, 0), 0, 0)[0];
    }

    int shifted(int m, int what) {
        if (what < 0 || what > 2) {
            return -2;
        }
        if (m < 1 || m > 5) {
            return -3;
        }
        if (now.strips.isEmpty()) {
            return -5;
        }
        int[] best = {0, -1, -1};
        int most = mostOf(now, m);
        for (int a = 0; a < now.strips.size(); a++) {
            for (int b = 0; b < now.strips.size(); b++) {
                if (a != b && now.strips.get(a).reapers > 0 && now.strips.get(b).reapers < 9) {
                    State s = now.copy();
                    s.strips.get(a).reapers--;
                    s.strips.get(b).reapers++;
                    int more = mostOf(s, m) - most;
                    best = more > best[0] ? new int[] {more, a, b} : best;
                }
            }
        }
        return best[what];
    }

    int felled(int m, int what) {
        if (what < 0 || what > 1) {
            return -2;
        }
        if (m < 1 || m > 6) {
            return -3;
        }
        if (now.strips.isEmpty()) {
            return -5;
        }
        int[] best = {0, -1};
        int most = mostOf(now, m);
        for (int a = 0; a < now.strips.size(); a++) {
            State s = now.copy();
            s.strips.get(a).tree = 0;
            int more = mostOf(s, m) - most;
            best = more > best[0] ? new int[] {more, a} : best;
        }
        return best[what];
    }

    int soonest(int sheaves) {
        if (sheaves < 0 || sheaves > 9999) {
            return -3;
        }
        if (now.strips.isEmpty()) {
            return -5;
        }
        for (int m = 0; m <= 8; m++) {
            if (mostOf(now, m) >= sheaves) {
                return m;
            }
        }
        return -1;
    }

    int dark() {
        int bits = (1 << now.strips.size()) - 1;
        for (int o = 0; o < now.strips.size(); o++) {
            bits &= ~lit(o);
        }
        return bits;
    }

    int ends(int m) {
        if (m < 1 || m > 6) {
            return -3;
        }
        if (now.strips.isEmpty()) {
            return -5;
        }
        Set<String> unlike = new HashSet<>();
        for (Way w : ways(now, possible(now, m))) {
            unlike.add(java.util.Arrays.toString(got(now, w.end)));
        }
        return unlike.size();
    }

    int halts(int set) {
        if (others(set)) {
            return -3;
        }
        int best = -1;
        int[] lit = new int[now.strips.size()];
        for (int o = 0; o < lit.length; o++) {
            lit[o] = lit(o);
        }
        for (int over = 0; over < 1 << lit.length; over++) {
            int bits = 0;
            for (int o = 0; o < lit.length; o++) {
                bits |= (over >> o & 1) != 0 ? lit[o] : 0;
            }
            if ((set & ~bits) == 0 && (best < 0 || Integer.bitCount(over) < Integer.bitCount(best))) {
                best = over;
            }
        }
        return best;
    }

    int tour(int set) {
        int over = halts(set);
        if (over <= 0) {
            return over;
        }
        // Breadth first over where it hangs and which halts are done.
        Set<Integer> seen = new HashSet<>();
        List<Integer> at = new ArrayList<>(List.of(now.at << 16 | over & ~(1 << now.at)));
        for (int steps = 0; ; steps++) {
            List<Integer> then = new ArrayList<>();
            for (int i : at) {
                if ((i & 65535) == 0) {
                    return steps;
                }
                for (int to = (i >> 16) - 1; to <= (i >> 16) + 1; to++) {
                    if (now.has(to) && seen.add(to << 16 | i & 65535 & ~(1 << to))) {
                        then.add(to << 16 | i & 65535 & ~(1 << to));
                    }
                }
            }
            at = then;
        }
    }

    private int[] explain(int row, int m) {
        if (noRow(row)) {
            return new int[] {-2, -2};
        }
        if (rows[row] == null) {
            return new int[] {-6, -6};
        }
        if (rows[row].length != now.strips.size()) {
            return new int[] {-7, -7};
        }
        if (m < 1 || m > 8) {
            return new int[] {-3, -3};
        }
        if (now.strips.isEmpty()) {
            return new int[] {-5, -5};
        }
        int[] found = {0, 65535};
        for (Way w : ways(now, m)) {
            boolean same = true;
            for (int s = 0; s < now.strips.size(); s++) {
                same &= w.end.strips.get(s).crop == rows[row][s];
            }
            found[0] += same ? 1 : 0;
            found[1] &= same ? w.over : 65535;
        }
        found[1] = found[0] == 0 ? 0 : found[1];
        return found;
    }

    int stubble(int row, int m) {
        return explain(row, m)[0];
    }

    int sure(int row, int m) {
        return explain(row, m)[1];
    }

    /** The first meeting behind so many minutes of staying, or a code. */
    private int meeting(int moves, int others, int wait) {
        if (noRow(moves) || noRow(others)) {
            return -2;
        }
        if (rows[moves] == null || rows[others] == null) {
            return -6;
        }
        List<Integer> hangs = new ArrayList<>();
        State s = now.copy();
        for (int i = 0; i < wait; i++) {
            hangs.add(s.at);
        }
        for (long move : rows[moves]) {
            if (s.why(move) == 1) {
                return -5;
            }
            s.at += move == 1 ? -1 : move == 2 ? 1 : 0;
            hangs.add(s.at);
        }
        for (int i = 0; i < hangs.size() && i < rows[others].length; i++) {
            if (hangs.get(i) == now.cross && rows[others][i] == 0) {
                return i;
            }
        }
        return -1;
    }

    int meets(int moves, int others) {
        return meeting(moves, others, 0);
    }

    int delay(int moves, int others) {
        for (int wait = 0; wait <= 40; wait++) {
            int met = meeting(moves, others, wait);
            if (met < 0) {
                return met == -1 ? wait : met;
            }
        }
        return -1;
    }

    int numbers(int row, int sort, int n) {
        if (noRow(row) || sort < 0 || sort > 3) {
            return -2;
        }
        if (n < 0 || n > 40) {
            return -3;
        }
        rows[row] = new long[n];
        sorts[row] = sort;
        return 0;
    }

    long write(int row, int i, long v) {
        if (noRow(row)) {
            return -2;
        }
        if (rows[row] == null) {
            return -6;
        }
        if (i < 0 || i >= rows[row].length) {
            return -7;
        }
        int spare = 64 - (8 << sorts[row]);
        rows[row][i] = v << spare >> spare;
        return rows[row][i];
    }

    int copy(int row) {
        if (noRow(row)) {
            return -2;
        }
        if (rows[row] == null) {
            return -6;
        }
        if (rows[row].length < now.strips.size()) {
            return -7;
        }
        for (int s = 0; s < now.strips.size(); s++) {
            rows[row][s] = now.strips.get(s).crop;
        }
        return now.strips.size();
    }

    int image(int i) {
        if (i < 0 || i > 1) {
            return -2;
        }
        images[i] = now.copy();
        return 0;
    }

    int restore(int i) {
        if (i < 0 || i > 1) {
            return -2;
        }
        if (images[i] == null) {
            return -5;
        }
        now = images[i].copy();
        return 0;
    }

    int count(int what) {
        if (what < 0 || what > 12) {
            return -1;
        }
        int stand = 0;
        int reaped = 0;
        for (Strip s : now.strips) {
            stand += s.crop;
            reaped += s.reaped;
        }
        int n = now.strips.size();
        return new int[] {n, now.minute, n == 0 ? -1 : now.at, now.height, now.power, now.fade, now.oil, now.moths,
            now.cross, stand, reaped, tape.length, now.lines}[what];
    }
}
