import java.util.Arrays;

/** A lamp on a rope over a plain of strips, whose light lets reapers reap: the promises of DOC.md. */
public final class RopeMoon {
    public static final int NONE = -1;

    private static final int NO_SUCH = -2;
    private static final int BAD_NUMBER = -3;
    private static final int TOO_MANY = -4;
    private static final int NOT_NOW = -5;
    private static final int ROW_MISSING = -6;
    private static final int NO_PLACE = -7;
    private static final int TEXT_FAULT = -30;

    private static final int MAX_STRIPS = 16;
    private static final int FARMS = 6;
    private static final int MAX_REAPERS = 9;
    private static final int MAX_ROPE = 30;
    private static final int MAX_SOUGHT_HEIGHT = 99;
    private static final int MAX_OIL = 999;
    private static final int MAX_FILL = 99;
    private static final int LAST_MINUTE = 9999;
    private static final int MAX_NIGHT = 60;
    private static final int MAX_SHEAVES = 9999;
    private static final int MAX_TAPE = 900;
    private static final int FEED_BYTES = 20;
    private static final int ROWS = 4;
    private static final int SORTS = 4;
    private static final int MAX_NUMBERS = 40;
    private static final int MAX_WAIT = 40;
    private static final int IMAGES = 2;
    private static final int MAX_SOUGHT = 8;
    private static final int MAX_SHIFT_SOUGHT = 5;
    private static final int MAX_FELL_SOUGHT = 6;
    private static final int MAX_ENDS = 6;
    private static final int FIRST_MOVE = 10;

    private final byte[] tape = new byte[MAX_TAPE];
    private int tapeSize = 0;
    private final TextReader reader = new TextReader();
    private final Plain field = new Plain();
    // A second plain on which moves are judged and trees felled without touching the real one.
    private final Plain trial = new Plain();
    private final Plain[] images = new Plain[IMAGES];
    private final boolean[] imageMade = new boolean[IMAGES];
    private final Row[] rows = new Row[ROWS];
    private final Walks walks = new Walks();
    private final Harvest harvest = new Harvest();
    private final Shifts shifts = new Shifts();
    private final Ends endings = new Ends();
    private final Cover cover = new Cover();

    public RopeMoon() {
        for (int i = 0; i < IMAGES; i++) {
            images[i] = new Plain();
        }
        for (int i = 0; i < ROWS; i++) {
            rows[i] = new Row();
        }
    }

    // ---- the plain

    public int feed(int a, int b, int c, int d, int e) {
        if (tapeSize + FEED_BYTES > MAX_TAPE) {
            return NOT_NOW;
        }
        tapeInt(a);
        tapeInt(b);
        tapeInt(c);
        tapeInt(d);
        tapeInt(e);
        return tapeSize;
    }

    public int plain(int n) {
        if (n < 0 || n > tapeSize) {
            return BAD_NUMBER;
        }
        tapeSize = 0;
        int found = reader.readText(tape, n);
        if (found != 0) {
            return TEXT_FAULT - found;
        }
        field.become(reader.told);
        return field.lines;
    }

    public int fault(int what) {
        if (what == 0) {
            return reader.faultKind;
        }
        if (what == 1) {
            return reader.faultPlace;
        }
        return NONE;
    }

    public int strip(int s, int what) {
        if (!field.hasStrip(s)) {
            return NO_SUCH;
        }
        switch (what) {
            case 0: return field.crops[s];
            case 1: return field.reapers[s];
            case 2: return field.trees[s];
            case 3: return field.farms[s];
            case 4: return field.reaped[s];
            case 5: return field.lightOf(field.at, s);
            default: return NO_SUCH;
        }
    }

    public int farm(int f, int what) {
        if (!isFarm(f)) {
            return NO_SUCH;
        }
        switch (what) {
            case 0: return field.sumOfFarm(field.reaped, f);
            case 1: return field.sumOfFarm(field.crops, f);
            case 2: return field.bids[f];
            case 3: return field.stripsOfFarm(f);
            default: return NO_SUCH;
        }
    }

    // ---- light

    public int light(int over, int strip) {
        if (!field.hasStrip(over) || !field.hasStrip(strip)) {
            return NO_SUCH;
        }
        return field.lightOf(over, strip);
    }

    public int lit(int over) {
        if (!field.hasStrip(over)) {
            return NO_SUCH;
        }
        return field.litFrom(over);
    }

    public int shaded(int over) {
        if (!field.hasStrip(over)) {
            return NO_SUCH;
        }
        return field.shadedFrom(over);
    }

    public int high(int over, int strip) {
        if (!field.hasStrip(over) || !field.hasStrip(strip)) {
            return NO_SUCH;
        }
        return field.leastHeight(over, strip);
    }

    public int highFor(int set, boolean over) {
        if (set == 0 || !field.areStrips(set)) {
            return BAD_NUMBER;
        }
        int least = NONE;
        int leastOver = NONE;
        for (int o = 0; o < field.strips; o++) {
            int h = field.leastHeightForAll(o, set);
            if (h != NONE && (least == NONE || h < least)) {
                least = h;
                leastOver = o;
            }
        }
        return over ? leastOver : least;
    }

    public int height(int h) {
        if (h < 1 || h > MAX_ROPE) {
            return BAD_NUMBER;
        }
        int was = field.rope;
        field.rope = h;
        return was;
    }

    public int fell(int s) {
        if (!field.hasStrip(s)) {
            return NO_SUCH;
        }
        int was = field.trees[s];
        if (was == 0) {
            return NOT_NOW;
        }
        field.trees[s] = 0;
        return was;
    }

    // ---- minutes

    public int minute(int move) {
        int why = field.whyNot(move);
        if (why != 0) {
            return why == Plain.NO_WAY ? NO_SUCH : NOT_NOW;
        }
        return field.pass(field.target(field.at, move), true);
    }

    public int judge(int row, int what) {
        if (!isRow(row) || what < 0 || what > 3) {
            return NO_SUCH;
        }
        Row moves = rows[row];
        if (moves.missing) {
            return ROW_MISSING;
        }
        trial.become(field);
        int made = trial.passAll(moves);
        boolean all = made >= moves.size;
        switch (what) {
            case 0: return all ? NONE : made;
            case 1: return all ? 0 : trial.whyNot(moves.valueAt(made));
            case 2: return trial.sum(trial.reaped) - field.sum(field.reaped);
            default: return trial.hangsOver();
        }
    }

    public int perform(int row) {
        if (!isRow(row)) {
            return NO_SUCH;
        }
        if (rows[row].missing) {
            return ROW_MISSING;
        }
        return field.passAll(rows[row]);
    }

    public int fill(int n) {
        if (n < 0 || n > MAX_FILL) {
            return BAD_NUMBER;
        }
        field.oil = Math.min(MAX_OIL, field.oil + n);
        return field.oil;
    }

    public int night(int seed, int minutes) {
        if (minutes < 1 || minutes > MAX_NIGHT) {
            return BAD_NUMBER;
        }
        int lasting = Math.min(minutes, field.oil);
        if (field.strips == 0 || lasting == 0 || field.minute + lasting > LAST_MINUTE) {
            return NOT_NOW;
        }
        int x = seed;
        int sheaves = 0;
        for (int i = 0; i < lasting; i++) {
            x = nextDraw(x);
            int to = field.target(field.at, (x >>> 16) % 3);
            x = nextDraw(x);
            boolean calm = (x >>> 16) % 100 >= field.moths;
            sheaves += field.pass(to == NONE ? field.at : to, calm);
        }
        return sheaves;
    }

    public int walk(int from, int to, int n) {
        if (!field.hasStrip(from) || !field.hasStrip(to)) {
            return NO_SUCH;
        }
        if (n < 0 || n > field.reapers[from]) {
            return BAD_NUMBER;
        }
        // Whoever walks to where he is makes nobody more there.
        if (from != to && field.reapers[to] + n > MAX_REAPERS) {
            return TOO_MANY;
        }
        field.reapers[from] -= n;
        field.reapers[to] += n;
        return 0;
    }

    // ---- sought

    public int most(int m, int what) {
        int refused = refusedSearch(isAskable(what, 1), m, MAX_SOUGHT);
        if (refused != 0) {
            return refused;
        }
        if (what == 1) {
            return possibleMinutes(m);
        }
        seek(Harvest.ALL, NONE, m);
        return foundAnswer(m, what, harvest.bestScore);
    }

    public int dearest(int m, int what) {
        int refused = refusedSearch(isAskable(what, 0), m, MAX_SOUGHT);
        if (refused != 0) {
            return refused;
        }
        seek(Harvest.BIDS, NONE, m);
        return foundAnswer(m, what, harvest.bestScore);
    }

    public int fairest(int m, int what) {
        int refused = refusedSearch(isAskable(what, 1), m, MAX_SOUGHT);
        if (refused != 0) {
            return refused;
        }
        seek(Harvest.FAIR, NONE, m);
        int score = harvest.bestScore;
        return foundAnswer(m, what, what == 0 ? Harvest.fewestIn(score) : Harvest.allIn(score));
    }

    public int alone(int f, int m, int what) {
        int refused = refusedSearch(isFarm(f) && isAskable(what, 0), m, MAX_SOUGHT);
        if (refused != 0) {
            return refused;
        }
        seek(Harvest.ONE_FARM, f, m);
        return foundAnswer(m, what, harvest.bestScore);
    }

    public int pays(int f, int m) {
        int refused = refusedSearch(isFarm(f), m, MAX_SOUGHT);
        if (refused != 0) {
            return refused;
        }
        seek(Harvest.BIDS, NONE, m);
        int othersWithIt = harvest.bestScore - harvest.bidsOf(f, walks.hangs[harvest.bestState]);
        seek(Harvest.BIDS, f, m);
        return harvest.bestScore - othersWithIt;
    }

    public int shifted(int m, int what) {
        int refused = refusedSearch(what >= 0 && what <= 2, m, MAX_SHIFT_SOUGHT);
        if (refused != 0) {
            return refused;
        }
        seek(Harvest.ALL, NONE, m);
        int most = harvest.bestScore;
        shifts.seekAll(harvest, walks, possibleMinutes(m));
        int best = 0;
        int pair = NONE;
        for (int i = 0; i < MAX_STRIPS * MAX_STRIPS; i++) {
            if (canShift(i / MAX_STRIPS, i % MAX_STRIPS) && shifts.mostSheaves[i] - most > best) {
                best = shifts.mostSheaves[i] - most;
                pair = i;
            }
        }
        if (what == 0) {
            return best;
        }
        if (pair == NONE) {
            return NONE;
        }
        return what == 1 ? pair / MAX_STRIPS : pair % MAX_STRIPS;
    }

    public int felled(int m, int what) {
        int refused = refusedSearch(what == 0 || what == 1, m, MAX_FELL_SOUGHT);
        if (refused != 0) {
            return refused;
        }
        seek(Harvest.ALL, NONE, m);
        int most = harvest.bestScore;
        int best = most;
        int strip = NONE;
        trial.become(field);
        for (int s = 0; s < field.strips; s++) {
            if (field.trees[s] > 0) {
                trial.trees[s] = 0;
                harvest.prepare(trial, Harvest.ALL, NONE);
                trial.trees[s] = field.trees[s];
                harvest.seekBest(walks, possibleMinutes(m), best);
                if (harvest.bestScore > best) {
                    best = harvest.bestScore;
                    strip = s;
                }
            }
        }
        return what == 0 ? best - most : strip;
    }

    public int soonest(int sheaves) {
        if (sheaves < 0 || sheaves > MAX_SHEAVES) {
            return BAD_NUMBER;
        }
        if (field.strips == 0) {
            return NOT_NOW;
        }
        if (sheaves == 0) {
            return 0;
        }
        // More than stands can't be reaped, and need not be sought.
        if (sheaves > field.sum(field.crops)) {
            return NONE;
        }
        harvest.prepare(field, Harvest.ALL, NONE);
        int last = possibleMinutes(MAX_SOUGHT);
        for (int m = 1; m <= last; m++) {
            walks.lay(field.strips, field.at, m);
            harvest.seekBest(walks, m, sheaves - 1);
            if (harvest.bestScore >= sheaves) {
                return m;
            }
        }
        return NONE;
    }

    public int dark() {
        int bits = 0;
        for (int o = 0; o < field.strips; o++) {
            bits |= field.litFrom(o);
        }
        return field.allStrips() & ~bits;
    }

    public int ends(int m) {
        int refused = refusedSearch(true, m, MAX_ENDS);
        if (refused != 0) {
            return refused;
        }
        int minutes = possibleMinutes(m);
        walks.lay(field.strips, field.at, minutes);
        harvest.prepare(field, Harvest.ALL, NONE);
        return endings.countUnlike(harvest, walks, minutes);
    }

    public int halts(int set) {
        if (!field.areStrips(set)) {
            return BAD_NUMBER;
        }
        return cover.fewest(field, set);
    }

    public int tour(int set) {
        if (!field.areStrips(set)) {
            return BAD_NUMBER;
        }
        int over = cover.fewest(field, set);
        if (over == NONE || over == 0) {
            return over;
        }
        int low = Math.min(field.at, Integer.numberOfTrailingZeros(over));
        int top = Math.max(field.at, 31 - Integer.numberOfLeadingZeros(over));
        return top - low + Math.min(field.at - low, top - field.at);
    }

    // ---- stubble, the other lamp

    public int stubble(int row, int m) {
        int refused = refusedStubble(row, m);
        if (refused != 0) {
            return refused;
        }
        explain(rows[row], m);
        return endings.explained;
    }

    public int sure(int row, int m) {
        int refused = refusedStubble(row, m);
        if (refused != 0) {
            return refused;
        }
        explain(rows[row], m);
        return endings.sureStrips;
    }

    public int meets(int moves, int others) {
        int refused = refusedMeeting(moves, others);
        if (refused != 0) {
            return refused;
        }
        return firstMeeting(rows[moves], rows[others], 0);
    }

    public int delay(int moves, int others) {
        int refused = refusedMeeting(moves, others);
        if (refused != 0) {
            return refused;
        }
        for (int wait = 0; wait <= MAX_WAIT; wait++) {
            if (firstMeeting(rows[moves], rows[others], wait) == NONE) {
                return wait;
            }
        }
        return NONE;
    }

    // ---- rows of numbers, images

    public int numbers(int row, int sort, int n) {
        if (!isRow(row) || sort < 0 || sort >= SORTS) {
            return NO_SUCH;
        }
        if (n < 0 || n > MAX_NUMBERS) {
            return BAD_NUMBER;
        }
        rows[row].renew(sort, n);
        return 0;
    }

    public long write(int row, int i, long v) {
        if (!isRow(row)) {
            return NO_SUCH;
        }
        Row into = rows[row];
        if (into.missing) {
            return ROW_MISSING;
        }
        if (i < 0 || i >= into.size) {
            return NO_PLACE;
        }
        return into.put(i, v);
    }

    public int copy(int row) {
        if (!isRow(row)) {
            return NO_SUCH;
        }
        Row into = rows[row];
        if (into.missing) {
            return ROW_MISSING;
        }
        if (into.size < field.strips) {
            return NO_PLACE;
        }
        for (int s = 0; s < field.strips; s++) {
            into.put(s, field.crops[s]);
        }
        return field.strips;
    }

    public int image(int i) {
        if (i < 0 || i >= IMAGES) {
            return NO_SUCH;
        }
        images[i].become(field);
        imageMade[i] = true;
        return 0;
    }

    public int restore(int i) {
        if (i < 0 || i >= IMAGES) {
            return NO_SUCH;
        }
        if (!imageMade[i]) {
            return NOT_NOW;
        }
        field.become(images[i]);
        return 0;
    }

    public int count(int what) {
        switch (what) {
            case 0: return field.strips;
            case 1: return field.minute;
            case 2: return field.hangsOver();
            case 3: return field.rope;
            case 4: return field.power;
            case 5: return field.fade;
            case 6: return field.oil;
            case 7: return field.moths;
            case 8: return field.crossing;
            case 9: return field.sum(field.crops);
            case 10: return field.sum(field.reaped);
            case 11: return tapeSize;
            case 12: return field.lines;
            default: return NONE;
        }
    }

    // ---- helpers of the calls

    private void tapeInt(int v) {
        for (int shift = 24; shift >= 0 && tapeSize < MAX_TAPE; shift -= 8) {
            tape[tapeSize] = (byte) (v >>> shift);
            tapeSize++;
        }
    }

    private static boolean isFarm(int f) {
        return f >= 0 && f < FARMS;
    }

    private static boolean isRow(int row) {
        return row >= 0 && row < ROWS;
    }

    private static boolean isAskable(int what, int lastNumber) {
        return what >= 0 && what <= lastNumber || what >= FIRST_MOVE && what < FIRST_MOVE + MAX_SOUGHT;
    }

    private static int nextDraw(int x) {
        return 1103515245 * x + 12345;
    }

    private int refusedSearch(boolean known, int m, int most) {
        if (!known) {
            return NO_SUCH;
        }
        if (m < 1 || m > most) {
            return BAD_NUMBER;
        }
        return field.strips == 0 ? NOT_NOW : 0;
    }

    private int possibleMinutes(int m) {
        return Math.min(m, Math.min(field.oil, LAST_MINUTE - field.minute));
    }

    private void seek(int goal, int farm, int m) {
        int minutes = possibleMinutes(m);
        walks.lay(field.strips, field.at, minutes);
        harvest.prepare(field, goal, farm);
        harvest.seekBest(walks, minutes, NONE);
    }

    private int foundAnswer(int m, int what, int told) {
        if (what < FIRST_MOVE) {
            return told;
        }
        return walks.moveOf(harvest.bestState, possibleMinutes(m), what - FIRST_MOVE);
    }

    private boolean canShift(int from, int to) {
        return from != to && field.hasStrip(from) && field.hasStrip(to)
            && field.reapers[from] > 0 && field.reapers[to] < MAX_REAPERS;
    }

    private int refusedStubble(int row, int m) {
        if (!isRow(row)) {
            return NO_SUCH;
        }
        if (rows[row].missing) {
            return ROW_MISSING;
        }
        if (rows[row].size != field.strips) {
            return NO_PLACE;
        }
        return refusedSearch(true, m, MAX_SOUGHT);
    }

    private void explain(Row stubble, int m) {
        // Unlike the sought moves, an explanation is never shorter than told.
        if (possibleMinutes(m) < m) {
            endings.explainNothing();
            return;
        }
        walks.lay(field.strips, field.at, m);
        harvest.prepare(field, Harvest.ALL, NONE);
        endings.explain(harvest, walks, m, stubble);
    }

    private int refusedMeeting(int moves, int others) {
        if (!isRow(moves) || !isRow(others)) {
            return NO_SUCH;
        }
        if (rows[moves].missing || rows[others].missing) {
            return ROW_MISSING;
        }
        int at = field.at;
        for (int i = 0; i < rows[moves].size; i++) {
            at = field.target(at, rows[moves].valueAt(i));
            if (at == NONE) {
                return NOT_NOW;
            }
        }
        return 0;
    }

    private int firstMeeting(Row moves, Row others, int wait) {
        int at = field.at;
        int last = Math.min(wait + moves.size, others.size);
        for (int i = 0; i < last; i++) {
            if (i >= wait) {
                at = field.target(at, moves.valueAt(i - wait));
            }
            if (at == field.crossing && others.valueAt(i) == 0) {
                return i;
            }
        }
        return NONE;
    }

    /** The plain with its lamp, as it stands in some minute. */
    private static final class Plain {
        private static final int NO_WAY = 1;
        private static final int NO_OIL = 2;
        private static final int TOO_LATE = 3;

        private int strips;
        private int lines;
        private int minute;
        private int at;
        private int rope;
        private int power;
        private int fade;
        private int oil;
        private int moths;
        private int crossing;
        private final int[] crops = new int[MAX_STRIPS];
        private final int[] reapers = new int[MAX_STRIPS];
        private final int[] trees = new int[MAX_STRIPS];
        private final int[] farms = new int[MAX_STRIPS];
        private final int[] reaped = new int[MAX_STRIPS];
        private final int[] bids = new int[FARMS];

        private Plain() {
            empty();
        }

        private void empty() {
            strips = 0;
            lines = 0;
            minute = 0;
            at = 0;
            rope = 6;
            power = 6;
            fade = 1;
            oil = 60;
            moths = 0;
            crossing = 0;
            Arrays.fill(bids, 1);
        }

        private void become(Plain other) {
            strips = other.strips;
            lines = other.lines;
            minute = other.minute;
            at = other.at;
            rope = other.rope;
            power = other.power;
            fade = other.fade;
            oil = other.oil;
            moths = other.moths;
            crossing = other.crossing;
            System.arraycopy(other.crops, 0, crops, 0, MAX_STRIPS);
            System.arraycopy(other.reapers, 0, reapers, 0, MAX_STRIPS);
            System.arraycopy(other.trees, 0, trees, 0, MAX_STRIPS);
            System.arraycopy(other.farms, 0, farms, 0, MAX_STRIPS);
            System.arraycopy(other.reaped, 0, reaped, 0, MAX_STRIPS);
            System.arraycopy(other.bids, 0, bids, 0, FARMS);
        }

        private void addStrip(int crop, int hands, int tree, int farm) {
            if (strips < MAX_STRIPS) {
                crops[strips] = crop;
                reapers[strips] = hands;
                trees[strips] = tree;
                farms[strips] = farm;
                reaped[strips] = 0;
                strips++;
            }
        }

        private boolean hasStrip(int s) {
            return s >= 0 && s < strips;
        }

        private int allStrips() {
            return (1 << strips) - 1;
        }

        private boolean areStrips(int set) {
            return (set & ~allStrips()) == 0;
        }

        private int hangsOver() {
            return strips == 0 ? NONE : at;
        }

        private int sum(int[] ofStrips) {
            int all = 0;
            for (int s = 0; s < strips; s++) {
                all += ofStrips[s];
            }
            return all;
        }

        private int sumOfFarm(int[] ofStrips, int farm) {
            int all = 0;
            for (int s = 0; s < strips; s++) {
                if (farms[s] == farm) {
                    all += ofStrips[s];
                }
            }
            return all;
        }

        private int stripsOfFarm(int farm) {
            int bits = 0;
            for (int s = 0; s < strips; s++) {
                if (farms[s] == farm) {
                    bits |= 1 << s;
                }
            }
            return bits;
        }

        private int unshadedLight(int over, int s) {
            return Math.max(0, power - fade * Math.abs(over - s));
        }

        private boolean isShaded(int over, int s) {
            int steps = Math.abs(over - s);
            int end = Math.max(over, s);
            for (int t = Math.min(over, s) + 1; t < end; t++) {
                if (trees[t] * steps > rope * Math.abs(t - s)) {
                    return true;
                }
            }
            return false;
        }

        private int lightOf(int over, int s) {
            int light = unshadedLight(over, s);
            return light > 0 && isShaded(over, s) ? 0 : light;
        }

        private int litFrom(int over) {
            int bits = 0;
            for (int s = 0; s < strips; s++) {
                if (lightOf(over, s) > 0) {
                    bits |= 1 << s;
                }
            }
            return bits;
        }

        private int shadedFrom(int over) {
            int bits = 0;
            for (int s = 0; s < strips; s++) {
                if (unshadedLight(over, s) > 0 && isShaded(over, s)) {
                    bits |= 1 << s;
                }
            }
            return bits;
        }

        private int leastHeight(int over, int s) {
            if (unshadedLight(over, s) == 0) {
                return NONE;
            }
            int least = 1;
            int steps = Math.abs(over - s);
            int end = Math.max(over, s);
            for (int t = Math.min(over, s) + 1; t < end; t++) {
                int gap = Math.abs(t - s);
                int clear = gap > 0 ? (trees[t] * steps + gap - 1) / gap : 0;
                least = Math.max(least, clear);
            }
            return least > MAX_SOUGHT_HEIGHT ? NONE : least;
        }

        // A higher lamp never lights less, so the neediest strip of the set tells.
        private int leastHeightForAll(int over, int set) {
            int least = 1;
            for (int s = 0; s < strips; s++) {
                if ((set >> s & 1) != 0) {
                    int h = leastHeight(over, s);
                    if (h == NONE) {
                        return NONE;
                    }
                    least = Math.max(least, h);
                }
            }
            return least;
        }

        private int target(int from, long move) {
            int to = from;
            if (move == 1) {
                to = from - 1;
            } else if (move == 2) {
                to = from + 1;
            } else if (move != 0) {
                return NONE;
            }
            return hasStrip(to) ? to : NONE;
        }

        private int whyNot(long move) {
            if (target(at, move) == NONE) {
                return NO_WAY;
            }
            if (oil == 0) {
                return NO_OIL;
            }
            return minute >= LAST_MINUTE ? TOO_LATE : 0;
        }

        private int pass(int to, boolean calm) {
            at = to;
            oil--;
            minute++;
            int sheaves = 0;
            for (int s = 0; calm && s < strips; s++) {
                int cut = Math.min(Math.min(reapers[s], crops[s]), lightOf(to, s));
                crops[s] -= cut;
                reaped[s] += cut;
                sheaves += cut;
            }
            return sheaves;
        }

        private int passAll(Row moves) {
            for (int i = 0; i < moves.size; i++) {
                long move = moves.valueAt(i);
                if (whyNot(move) != 0) {
                    return i;
                }
                pass(target(at, move), true);
            }
            return moves.size;
        }
    }

    /** Reads a text token by token into a plain of its own, which counts only if no fault was met. */
    private static final class TextReader {
        private static final int NO_TOKEN = 1;
        private static final int OUT_OF_PLACE = 2;
        private static final int OUT_OF_BOUNDS = 3;
        private static final int STRIP_TOO_MANY = 4;

        private static final int END = 0;
        private static final int WORD = 1;
        private static final int NUMBER = 2;
        private static final int SIGN = 3;
        private static final int UNKNOWN = 4;

        private static final int MAX_DIGITS = 3;

        private static final int NO_BYTE = 0;
        private static final int BLANK = 1;
        private static final int LETTER = 2;
        private static final int DIGIT = 3;
        private static final int SEMICOLON = 4;
        private static final int OTHER_BYTE = 5;

        private final Plain told = new Plain();
        private int faultKind = 0;
        private int faultPlace = NONE;
        private final byte[] text = new byte[MAX_TAPE];
        private int length = 0;
        private int start = 0;
        private int next = 0;
        private int token = END;
        private int value = 0;

        private int readText(byte[] bytes, int n) {
            length = Math.max(0, Math.min(n, Math.min(bytes.length, MAX_TAPE)));
            System.arraycopy(bytes, 0, text, 0, length);
            told.empty();
            faultKind = 0;
            faultPlace = NONE;
            next = 0;
            advance();
            for (int i = 0; i < MAX_TAPE && token != END && faultKind == 0; i++) {
                readLine();
            }
            return faultKind;
        }

        private void readLine() {
            if (isWord("strip")) {
                readStrip();
            } else if (takeWord("lamp")) {
                readLamp();
            } else if (takeWord("oil")) {
                told.oil = takeNumber(0, MAX_OIL);
            } else if (takeWord("bid")) {
                readBid();
            } else if (takeWord("moths")) {
                told.moths = takeNumber(0, 100);
            } else if (takeWord("cross")) {
                told.crossing = takeNumber(0, told.strips - 1);
            } else {
                refuse(OUT_OF_PLACE);
            }
            endLine();
        }

        private void readStrip() {
            if (told.strips >= MAX_STRIPS) {
                refuse(STRIP_TOO_MANY);
                return;
            }
            advance();
            int crop = takeNumber(0, 99);
            int hands = takeWord("reapers") ? takeNumber(0, MAX_REAPERS) : 2;
            int tree = takeWord("tree") ? takeNumber(0, 30) : 0;
            int farm = takeWord("farm") ? takeNumber(0, FARMS - 1) : 0;
            told.addStrip(crop, hands, tree, farm);
        }

        private void readLamp() {
            told.at = takeWord("at") ? takeNumber(0, told.strips - 1) : 0;
            told.rope = takeWord("height") ? takeNumber(1, MAX_ROPE) : 6;
            told.power = takeWord("power") ? takeNumber(0, 20) : 6;
            told.fade = takeWord("fade") ? takeNumber(0, 9) : 1;
        }

        private void readBid() {
            int farm = takeNumber(0, FARMS - 1);
            int bid = takeNumber(0, 99);
            if (faultKind == 0 && isFarm(farm)) {
                told.bids[farm] = bid;
            }
        }

        private void endLine() {
            if (faultKind == 0 && token == SIGN) {
                told.lines++;
                advance();
            } else {
                refuse(OUT_OF_PLACE);
            }
        }

        private boolean takeWord(String word) {
            if (faultKind != 0 || !isWord(word)) {
                return false;
            }
            advance();
            return true;
        }

        private int takeNumber(int low, int high) {
            if (faultKind != 0) {
                return low;
            }
            if (token != NUMBER) {
                refuse(OUT_OF_PLACE);
                return low;
            }
            if (value < low || value > high) {
                refuse(OUT_OF_BOUNDS);
                return low;
            }
            int taken = value;
            advance();
            return taken;
        }

        // What is no token at all is told as that, wherever it stands.
        private void refuse(int kind) {
            if (faultKind == 0) {
                faultKind = token == UNKNOWN ? NO_TOKEN : kind;
                faultPlace = start;
            }
        }

        private boolean isWord(String word) {
            if (token != WORD || next - start != word.length()) {
                return false;
            }
            for (int i = 0; i < word.length(); i++) {
                if (text[start + i] != word.charAt(i)) {
                    return false;
                }
            }
            return true;
        }

        private void advance() {
            start = endOf(BLANK, next);
            next = start + 1;
            switch (kindAt(start)) {
                case LETTER:
                    next = endOf(LETTER, start);
                    token = WORD;
                    break;
                case DIGIT:
                    next = endOf(DIGIT, start);
                    token = next - start > MAX_DIGITS ? UNKNOWN : NUMBER;
                    readValue();
                    break;
                case SEMICOLON:
                    token = SIGN;
                    break;
                case NO_BYTE:
                    next = start;
                    token = END;
                    break;
                default:
                    token = UNKNOWN;
                    break;
            }
        }

        private int endOf(int kind, int from) {
            int i = from;
            while (i < length && kindAt(i) == kind) {
                i++;
            }
            return i;
        }

        private int kindAt(int i) {
            if (i < 0 || i >= length) {
                return NO_BYTE;
            }
            int b = text[i];
            if (b >= 'a' && b <= 'z') {
                return LETTER;
            }
            if (b >= '0' && b <= '9') {
                return DIGIT;
            }
            if (b == 10 || b == 32) {
                return BLANK;
            }
            return b == ';' ? SEMICOLON : OTHER_BYTE;
        }

        private void readValue() {
            value = 0;
            int end = Math.min(next, start + MAX_DIGITS);
            for (int i = start; i < end; i++) {
                value = value * 10 + text[i] - '0';
            }
        }
    }

    /** A row of numbers; one array of the widest sort serves for all, as numbers are cut when put. */
    private static final class Row {
        private boolean missing = true;
        private int sort = 0;
        private int size = 0;
        private final long[] values = new long[MAX_NUMBERS];

        private void renew(int newSort, int newSize) {
            missing = false;
            sort = newSort;
            size = Math.max(0, Math.min(newSize, MAX_NUMBERS));
            Arrays.fill(values, 0L);
        }

        private long valueAt(int i) {
            return i >= 0 && i < size ? values[i] : NONE;
        }

        private long put(int i, long v) {
            if (i < 0 || i >= size) {
                return NO_PLACE;
            }
            values[i] = cut(v);
            return values[i];
        }

        private long cut(long v) {
            switch (sort) {
                case 0: return (byte) v;
                case 1: return (short) v;
                case 2: return (int) v;
                default: return v;
            }
        }
    }

    /**
     * All moves from one strip, minute by minute. What a strip loses in some minutes is the lesser of
     * its crop and what the reapers could cut there in each, so the order of the minutes does not count:
     * ways that hung equally long over each strip and end over the same one are held as one state,
     * with their number and the first moves among them. States of a minute stand in the order of these.
     */
    private static final class Walks {
        // From a middle strip of 16, 8 minutes lead to 2554 states, 1394 of them in the last.
        private static final int CAPACITY = 2560;
        private static final int SLOTS = 4096;
        private static final int SLOT_SHIFT = 52;
        private static final long SPREAD = 0x9E3779B97F4A7C15L;

        // Four bits for each strip: how many minutes the lamp hung over it.
        private final long[] hangs = new long[CAPACITY];
        private final int[] places = new int[CAPACITY];
        private final int[] ways = new int[CAPACITY];
        // Two bits for each move, the first one highest.
        private final int[] moves = new int[CAPACITY];
        // An earlier state of the same minute hung equally long over each strip.
        private final boolean[] twin = new boolean[CAPACITY];
        private final int[] slots = new int[SLOTS];
        private final int[] starts = new int[MAX_SOUGHT + 2];
        private int strips = 0;
        private int from = 0;
        private int laid = 0;
        private int size = 0;

        private void lay(int overStrips, int overFrom, int minutes) {
            if (size == 0 || overStrips != strips || overFrom != from) {
                begin(overStrips, overFrom);
            }
            int last = Math.min(minutes, MAX_SOUGHT);
            for (int m = laid; m < last; m++) {
                layMinute();
            }
        }

        private void begin(int overStrips, int overFrom) {
            strips = overStrips;
            from = overFrom;
            laid = 0;
            hangs[0] = 0;
            places[0] = from;
            ways[0] = 1;
            moves[0] = 0;
            twin[0] = false;
            size = 1;
            starts[0] = 0;
            starts[1] = 1;
            Arrays.fill(slots, 0);
        }

        private int first(int minutes) {
            return starts[Math.max(0, Math.min(minutes, laid))];
        }

        private int end(int minutes) {
            return starts[Math.max(0, Math.min(minutes, laid)) + 1];
        }

        private void layMinute() {
            int end = end(laid);
            for (int i = first(laid); i < end; i++) {
                arrive(i, places[i], 0, end);
                arrive(i, places[i] - 1, 1, end);
                arrive(i, places[i] + 1, 2, end);
            }
            laid++;
            starts[laid + 1] = size;
        }

        private void arrive(int parent, int place, int move, int layerStart) {
            if (place < 0 || place >= strips || place >= MAX_STRIPS) {
                return;
            }
            long key = hangs[parent] + (1L << 4 * place);
            boolean isTwin = false;
            int slot = (int) (key * SPREAD >>> SLOT_SHIFT);
            for (int tries = 0; tries < SLOTS; tries++) {
                int state = slots[slot];
                // What an earlier minute left in a slot is as good as nothing.
                if (state < layerStart) {
                    slots[slot] = size;
                    append(parent, key, place, move, isTwin);
                    return;
                }
                if (hangs[state] == key) {
                    if (places[state] == place) {
                        ways[state] += ways[parent];
                        return;
                    }
                    isTwin = true;
                }
                slot = slot + 1 & SLOTS - 1;
            }
        }

        private void append(int parent, long key, int place, int move, boolean isTwin) {
            if (size < CAPACITY) {
                hangs[size] = key;
                places[size] = place;
                ways[size] = ways[parent];
                moves[size] = moves[parent] << 2 | move;
                twin[size] = isTwin;
                size++;
            }
        }

        private int moveOf(int state, int minutes, int k) {
            if (k < 0 || k >= minutes) {
                return NONE;
            }
            return moves[state] >> 2 * (minutes - 1 - k) & 3;
        }
    }

    /** What is reaped from a plain by the ways of the lamp, and which of these is best for a goal. */
    private static final class Harvest {
        private static final int ALL = 0;
        private static final int BIDS = 1;
        private static final int FAIR = 2;
        private static final int ONE_FARM = 3;

        // All sheaves of 16 strips are fewer, so that both counts of the fairest fit in one score.
        private static final int FAIR_UNIT = 2048;

        private Plain over = new Plain();
        private int goal = ALL;
        private final int[] weights = new int[MAX_STRIPS];
        private final int[] caps = new int[MAX_STRIPS * MAX_STRIPS];
        // What a first minute over each strip is worth; no later one over it is worth more.
        private final int[] firstWorths = new int[MAX_STRIPS];
        private final int[] farmGot = new int[FARMS];
        private final int[] hungOver = new int[MAX_SOUGHT];
        private final int[] hungTimes = new int[MAX_SOUGHT];
        private int hung = 0;
        private int bestScore = 0;
        private int bestState = 0;

        private void prepare(Plain plain, int newGoal, int farm) {
            over = plain;
            goal = newGoal;
            for (int s = 0; s < plain.strips; s++) {
                weights[s] = weightOf(plain.farms[s], farm);
            }
            fillCaps(caps, 0);
            for (int o = 0; o < plain.strips; o++) {
                firstWorths[o] = firstWorth(o);
            }
        }

        private int firstWorth(int o) {
            int worth = 0;
            for (int s = 0; s < over.strips; s++) {
                worth += weights[s] * Math.min(caps[o * MAX_STRIPS + s], over.crops[s]);
            }
            return worth;
        }

        private int weightOf(int ofFarm, int farm) {
            if (goal == BIDS) {
                return ofFarm == farm ? 0 : over.bids[ofFarm];
            }
            return goal != ONE_FARM || ofFarm == farm ? 1 : 0;
        }

        /** What can be cut of each strip in a minute from over each, if it had some more reapers. */
        private void fillCaps(int[] table, int moreReapers) {
            for (int o = 0; o < over.strips; o++) {
                for (int s = 0; s < over.strips; s++) {
                    int reapers = Math.max(0, over.reapers[s] + moreReapers);
                    table[o * MAX_STRIPS + s] = Math.min(reapers, over.lightOf(o, s));
                }
            }
        }

        /** The first of the best ways, if it is better than some score; otherwise that score stays. */
        private void seekBest(Walks walks, int minutes, int beaten) {
            bestScore = beaten;
            int end = walks.end(minutes);
            for (int i = walks.first(minutes); i < end; i++) {
                if (walks.twin[i]) {
                    continue;
                }
                open(walks.hangs[i]);
                if (goal == FAIR || couldBeWorth() > bestScore) {
                    int score = goal == FAIR ? fairScore() : weighedScore();
                    if (score > bestScore) {
                        bestScore = score;
                        bestState = i;
                    }
                }
            }
        }

        private int couldBeWorth() {
            int worth = 0;
            for (int i = 0; i < hung; i++) {
                worth += hungTimes[i] * firstWorths[hungOver[i]];
            }
            return worth;
        }

        private void open(long hangs) {
            hung = 0;
            long rest = hangs;
            for (int o = 0; o < MAX_STRIPS && rest != 0 && hung < MAX_SOUGHT; o++) {
                int times = (int) (rest & 15);
                if (times != 0) {
                    hungOver[hung] = o;
                    hungTimes[hung] = times;
                    hung++;
                }
                rest >>>= 4;
            }
        }

        private int cutOf(int[] table, int s) {
            int could = 0;
            for (int i = 0; i < hung; i++) {
                could += hungTimes[i] * table[hungOver[i] * MAX_STRIPS + s];
            }
            return Math.min(could, over.crops[s]);
        }

        private int weighedScore() {
            int score = 0;
            for (int s = 0; s < over.strips; s++) {
                if (weights[s] != 0 && over.crops[s] != 0) {
                    score += weights[s] * cutOf(caps, s);
                }
            }
            return score;
        }

        private int fairScore() {
            Arrays.fill(farmGot, 0);
            int all = 0;
            for (int s = 0; s < over.strips; s++) {
                int cut = cutOf(caps, s);
                farmGot[over.farms[s]] += cut;
                all += cut;
            }
            int fewest = all;
            for (int s = 0; s < over.strips; s++) {
                fewest = Math.min(fewest, farmGot[over.farms[s]]);
            }
            return fewest * FAIR_UNIT + all;
        }

        private static int fewestIn(int fairScore) {
            return fairScore / FAIR_UNIT;
        }

        private static int allIn(int fairScore) {
            return fairScore % FAIR_UNIT;
        }

        private int stripsHungOver() {
            int bits = 0;
            for (int i = 0; i < hung; i++) {
                bits |= 1 << hungOver[i];
            }
            return bits;
        }

        private int bidsOf(int farm, long hangs) {
            open(hangs);
            int bids = 0;
            for (int s = 0; s < over.strips; s++) {
                if (over.farms[s] == farm) {
                    bids += over.bids[farm] * cutOf(caps, s);
                }
            }
            return bids;
        }
    }

    /** The most sheaves for each walk of one reaper: only two strips yield otherwise by it. */
    private static final class Shifts {
        private final int[] fewerCaps = new int[MAX_STRIPS * MAX_STRIPS];
        private final int[] moreCaps = new int[MAX_STRIPS * MAX_STRIPS];
        private final int[] without = new int[MAX_STRIPS];
        private final int[] with = new int[MAX_STRIPS];
        // By the strip from which times 16 and the strip to which.
        private final int[] mostSheaves = new int[MAX_STRIPS * MAX_STRIPS];

        private void seekAll(Harvest harvest, Walks walks, int minutes) {
            harvest.fillCaps(fewerCaps, -1);
            harvest.fillCaps(moreCaps, 1);
            Arrays.fill(mostSheaves, 0);
            int end = walks.end(minutes);
            for (int i = walks.first(minutes); i < end; i++) {
                if (!walks.twin[i]) {
                    harvest.open(walks.hangs[i]);
                    weigh(harvest);
                }
            }
        }

        private void weigh(Harvest harvest) {
            int strips = harvest.over.strips;
            int all = 0;
            for (int s = 0; s < strips; s++) {
                int cut = harvest.cutOf(harvest.caps, s);
                without[s] = harvest.cutOf(fewerCaps, s) - cut;
                with[s] = harvest.cutOf(moreCaps, s) - cut;
                all += cut;
            }
            for (int from = 0; from < strips; from++) {
                int left = all + without[from];
                int pair = from * MAX_STRIPS;
                for (int to = 0; to < strips; to++) {
                    int sheaves = left + with[to];
                    if (sheaves > mostSheaves[pair + to]) {
                        mostSheaves[pair + to] = sheaves;
                    }
                }
            }
        }
    }

    /** The crops that can stand behind some minutes: how many unlike ones, and what explains told ones. */
    private static final class Ends {
        // Six minutes lead to 171 ways at most that hung unlike.
        private static final int MAX_UNLIKE = 176;
        private static final int CROP_BITS = 7;
        private static final int HALF = MAX_STRIPS / 2;

        // Crops of eight strips packed into each, as 99 takes seven bits.
        private final long[] lowCrops = new long[MAX_UNLIKE];
        private final long[] highCrops = new long[MAX_UNLIKE];
        private int unlike = 0;
        private int explained = 0;
        private int sureStrips = 0;

        private int countUnlike(Harvest harvest, Walks walks, int minutes) {
            unlike = 0;
            int end = walks.end(minutes);
            for (int i = walks.first(minutes); i < end; i++) {
                if (!walks.twin[i]) {
                    harvest.open(walks.hangs[i]);
                    keep(packed(harvest, 0), packed(harvest, HALF));
                }
            }
            return unlike;
        }

        private static long packed(Harvest harvest, int first) {
            long bits = 0;
            int end = Math.min(first + HALF, harvest.over.strips);
            for (int s = first; s < end; s++) {
                bits = bits << CROP_BITS | harvest.over.crops[s] - harvest.cutOf(harvest.caps, s);
            }
            return bits;
        }

        private void keep(long low, long high) {
            for (int i = 0; i < unlike; i++) {
                if (lowCrops[i] == low && highCrops[i] == high) {
                    return;
                }
            }
            if (unlike < MAX_UNLIKE) {
                lowCrops[unlike] = low;
                highCrops[unlike] = high;
                unlike++;
            }
        }

        private void explainNothing() {
            explained = 0;
            sureStrips = 0;
        }

        private void explain(Harvest harvest, Walks walks, int minutes, Row stubble) {
            explainNothing();
            int sure = harvest.over.allStrips();
            int end = walks.end(minutes);
            for (int i = walks.first(minutes); i < end; i++) {
                harvest.open(walks.hangs[i]);
                if (leaves(harvest, stubble)) {
                    explained += walks.ways[i];
                    sure &= harvest.stripsHungOver();
                }
            }
            if (explained > 0) {
                sureStrips = sure;
            }
        }

        private static boolean leaves(Harvest harvest, Row stubble) {
            for (int s = 0; s < harvest.over.strips; s++) {
                if (harvest.over.crops[s] - harvest.cutOf(harvest.caps, s) != stubble.valueAt(s)) {
                    return false;
                }
            }
            return true;
        }
    }

    /** The fewest strips to hang over so that all of a set are lit. */
    private static final class Cover {
        private final int[] litFrom = new int[MAX_STRIPS];
        private final int[] lightersOf = new int[MAX_STRIPS];

        private int fewest(Plain plain, int set) {
            look(plain);
            int all = plain.allStrips();
            int left = 0;
            while (left <= plain.strips && !canLight(litFrom, lightersOf, set, all, left)) {
                left++;
            }
            if (left > plain.strips) {
                return NONE;
            }
            return leastBits(plain.strips, set, left);
        }

        // The highest strips are kept only where the lower ones do not do.
        private int leastBits(int strips, int set, int halts) {
            int chosen = 0;
            int open = set;
            int left = halts;
            for (int o = strips - 1; o >= 0; o--) {
                if (!canLight(litFrom, lightersOf, open, (1 << o) - 1, left)) {
                    chosen |= 1 << o;
                    open &= ~litFrom[o];
                    left--;
                }
            }
            return chosen;
        }

        private void look(Plain plain) {
            Arrays.fill(lightersOf, 0);
            for (int o = 0; o < plain.strips; o++) {
                litFrom[o] = plain.litFrom(o);
                for (int s = 0; s < plain.strips; s++) {
                    lightersOf[s] |= (litFrom[o] >> s & 1) << o;
                }
            }
        }

        // At most 16 deep, as no more halts are left than there are strips.
        private static boolean canLight(int[] lit, int[] lighters, int open, int allowed, int left) {
            if (open == 0) {
                return true;
            }
            int s = Integer.numberOfTrailingZeros(open);
            if (left <= 0 || s >= MAX_STRIPS) {
                return false;
            }
            int overs = lighters[s] & allowed;
            for (int o = 0; o < MAX_STRIPS; o++) {
                if ((overs >> o & 1) != 0 && canLight(lit, lighters, open & ~lit[o], allowed, left - 1)) {
                    return true;
                }
            }
            return false;
        }
    }
}
