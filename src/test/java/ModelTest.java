import java.util.Random;

/** Random runs of calls on RopeMoon and on the model, which must answer alike. */
public final class ModelTest {
    private static final int RUNS = 260;
    private static final int CALLS = 500;
    private static final String[] WORDS = {"strip", "lamp", "oil", "bid", "moths", "cross", "reapers", "tree", "farm",
        "at", "height", "power", "fade", ";", "0", "1", "5", "30", "99", "100", "1000", "#", "x", "Strip"};

    private final Check check;
    private final Random random;
    private final int run;
    private RopeMoon x = new RopeMoon();
    private Model y = new Model();
    private int strips = 0;

    private ModelTest(Check check, int run) {
        this.check = check;
        this.run = run;
        random = new Random(run);
    }

    public static void main(String[] args) {
        Check check = new Check("ModelTest");
        for (int run = 0; run < RUNS && check.wrong() == 0; run++) {
            new ModelTest(check, run).go();
        }
        check.finish();
    }

    private void go() {
        due("count", x.count(0), y.count(0));
        if (run % 13 == 12) {
            tell(goodText() + "moths 100;oil 999;");
            untilLate();
        } else if (random.nextInt(8) != 0) {
            tell(goodText());
        }
        for (int i = 0; i < CALLS && check.wrong() == 0; i++) {
            call();
        }
    }

    /** Nights without reaping to the last minutes there can be; the oil is left to chance. */
    private void untilLate() {
        for (int i = 0; i < 166; i++) {
            due("fill", x.fill(60), y.fill(60));
            due("night", x.night(i, 60), y.night(i, 60));
        }
        for (int i = random.nextInt(17); i > 0; i--) {
            due("night", x.night(i, 60), y.night(i, 60));
        }
        int minutes = 25 + random.nextInt(15);
        due("night", x.night(run, minutes), y.night(run, minutes));
    }

    private void due(String what, long got, long want) {
        check.due("run " + run + " " + what, got, want);
    }

    private int upTo(int n) {
        return random.nextInt(n + 1);
    }

    /** Mostly from low to high, sometimes just outside, seldom far away. */
    private int about(int low, int high) {
        int odd = random.nextInt(60);
        if (odd == 0) {
            return low - 1;
        }
        if (odd == 1) {
            return high + 1;
        }
        if (odd == 2) {
            return random.nextInt();
        }
        return high < low ? low : low + random.nextInt(high - low + 1);
    }

    private int aStrip() {
        return about(0, strips - 1);
    }

    private int aSet() {
        int odd = random.nextInt(30);
        if (odd == 0) {
            return random.nextInt();
        }
        return odd == 1 ? 0 : random.nextInt() & (1 << strips) - 1;
    }

    private String goodText() {
        StringBuilder t = new StringBuilder();
        int n = random.nextInt(6) == 0 ? 16 : 1 + random.nextInt(9);
        int crop = new int[] {3, 9, 30, 99}[random.nextInt(4)];
        int trees = random.nextInt(4);
        int farms = random.nextInt(6);
        for (int s = 0; s < n; s++) {
            t.append("strip ").append(upTo(crop));
            t.append(random.nextInt(3) > 0 ? " reapers " + upTo(9) : "");
            t.append(random.nextInt(4) < trees ? " tree " + upTo(random.nextBoolean() ? 8 : 30) : "");
            t.append(random.nextInt(3) > 0 ? "\nfarm " + upTo(farms) : "").append(';');
        }
        if (random.nextInt(6) > 0) {
            t.append("lamp at ").append(random.nextInt(n)).append(" height ").append(1 + random.nextInt(15));
            t.append(" power ").append(upTo(12)).append(" fade ").append(upTo(3)).append(';');
        }
        t.append("cross ").append(random.nextInt(n)).append(';');
        t.append(random.nextInt(3) == 0 ? "oil " + upTo(12) + ";" : "oil 400;");
        for (int f = 0; f < 4; f++) {
            t.append("bid ").append(upTo(5)).append(' ').append(upTo(random.nextBoolean() ? 4 : 99)).append(';');
        }
        t.append(random.nextBoolean() ? "moths " + upTo(100) + ";" : "");
        return t.toString();
    }

    private String oddText() {
        if (random.nextInt(4) == 0) {
            StringBuilder t = new StringBuilder();
            for (int i = random.nextInt(12); i > 0; i--) {
                t.append(WORDS[random.nextInt(WORDS.length)]).append(random.nextInt(3) > 0 ? " " : "");
            }
            return t.toString();
        }
        StringBuilder t = new StringBuilder(goodText());
        for (int i = 1 + random.nextInt(2); i > 0; i--) {
            int at = random.nextInt(t.length());
            switch (random.nextInt(3)) {
                case 0 -> t.deleteCharAt(at);
                case 1 -> t.insert(at, WORDS[random.nextInt(WORDS.length)]);
                default -> t.setCharAt(at, "0123456789; \nstrip#\u00e9".charAt(random.nextInt(19)));
            }
        }
        return t.toString();
    }

    private void tell(String text) {
        byte[] bytes = Check.bytes(text);
        for (int i = 0; i < bytes.length; i += 20) {
            int[] v = Check.ints(bytes, i);
            due("feed", x.feed(v[0], v[1], v[2], v[3], v[4]), y.feed(v));
        }
        int n = random.nextInt(20) == 0 ? about(0, text.length()) : text.length();
        due("plain of " + text, x.plain(n), y.plain(n));
        due("fault(0) of " + text, x.fault(0), y.fault(0));
        due("fault(1) of " + text, x.fault(1), y.fault(1));
        strips = y.count(0);
    }

    /** Rows of moves, of the other lamp, of the stubble that some moves leave. */
    private void fillRow() {
        int row = about(0, 3);
        int sort = about(0, 3);
        int n = random.nextInt(3) == 0 ? strips : about(0, 40);
        due("numbers", x.numbers(row, sort, n), y.numbers(row, sort, n));
        int style = random.nextInt(4);
        for (int i = 0; i < Math.min(n, 41); i++) {
            long v = style == 0 ? random.nextInt(3) : style == 1 ? random.nextInt(20) == 0 ? 2 : 0
                : style == 2 ? random.nextLong() >> random.nextInt(64) : random.nextInt(2);
            int at = random.nextInt(30) == 0 ? about(0, n - 1) : i;
            due("write", x.write(row, at, v), y.write(row, at, v));
        }
    }

    private void stubbleRow() {
        int row = random.nextInt(4);
        due("numbers", x.numbers(row, 0, strips), y.numbers(row, 0, strips));
        due("image", x.image(1), y.image(1));
        int m = 1 + random.nextInt(5);
        for (int i = 0; i < m; i++) {
            int move = random.nextInt(3);
            due("minute", x.minute(move), y.minute(move));
        }
        due("copy", x.copy(row), y.copy(row));
        due("restore", x.restore(1), y.restore(1));
        m += random.nextInt(12) == 0 ? 1 : 0;
        due("stubble " + m, x.stubble(row, m), y.stubble(row, m));
        due("sure " + m, x.sure(row, m), y.sure(row, m));
    }

    private int seldomHigh(int most) {
        int m = about(1, most);
        return m > 5 && m <= most && random.nextInt(6) > 0 ? 1 + random.nextInt(5) : m;
    }

    private int aWhat() {
        return random.nextInt(4) == 0 ? about(-1, 18) : random.nextBoolean() ? random.nextInt(2) : 10 + random.nextInt(8);
    }

    private void call() {
        switch (random.nextInt(12)) {
            case 0 -> looks();
            case 1 -> changes();
            case 2, 3 -> minutes();
            case 4, 5 -> sought();
            case 6 -> covers();
            case 7 -> stubble();
            case 8 -> others();
            case 9 -> rowsAndImages();
            case 10 -> states();
            default -> {
                if (random.nextInt(6) == 0) {
                    tell(random.nextBoolean() ? goodText() : oddText());
                }
            }
        }
    }

    private void states() {
        int what = about(0, 12);
        due("count " + what, x.count(what), y.count(what));
        int s = aStrip();
        what = about(0, 5);
        due("strip " + s + " " + what, x.strip(s, what), y.strip(s, what));
        int f = about(0, 5);
        what = about(0, 3);
        due("farm " + f + " " + what, x.farm(f, what), y.farm(f, what));
        what = about(0, 1);
        due("fault " + what, x.fault(what), y.fault(what));
    }

    private void looks() {
        int a = aStrip();
        int b = aStrip();
        due("light", x.light(a, b), y.light(a, b));
        due("lit", x.lit(a), y.lit(a));
        due("shaded", x.shaded(a), y.shaded(a));
        due("high", x.high(a, b), y.high(a, b));
        int set = random.nextBoolean() ? aSet() & aSet() : aSet();
        boolean over = random.nextBoolean();
        due("highFor", x.highFor(set, over), y.highFor(set, over));
        due("dark", x.dark(), y.dark());
    }

    private void changes() {
        int h = about(1, 30);
        if (random.nextInt(3) == 0) {
            due("height", x.height(h), y.height(h));
        }
        int s = aStrip();
        if (random.nextInt(6) == 0) {
            due("fell", x.fell(s), y.fell(s));
        }
        int from = aStrip();
        int to = aStrip();
        int n = about(0, 3);
        due("walk", x.walk(from, to, n), y.walk(from, to, n));
        int oil = about(0, 99);
        if (random.nextInt(8) == 0) {
            due("fill", x.fill(oil), y.fill(oil));
        }
    }

    private void minutes() {
        int move = about(0, 2);
        due("minute " + move, x.minute(move), y.minute(move));
        int row = about(0, 3);
        int what = about(0, 3);
        due("judge", x.judge(row, what), y.judge(row, what));
        if (random.nextInt(6) == 0) {
            due("perform", x.perform(row), y.perform(row));
        }
        int seed = random.nextInt();
        int m = about(1, random.nextInt(5) == 0 ? 60 : 3);
        if (random.nextInt(6) == 0) {
            due("night", x.night(seed, m), y.night(seed, m));
        }
    }

    private void sought() {
        int m = seldomHigh(8);
        int what = aWhat();
        int f = about(0, 5);
        switch (random.nextInt(9)) {
            case 0 -> due("most " + m + " " + what, x.most(m, what), y.most(m, what));
            case 1 -> due("dearest " + m + " " + what, x.dearest(m, what), y.dearest(m, what));
            case 2 -> due("fairest " + m + " " + what, x.fairest(m, what), y.fairest(m, what));
            case 3 -> due("alone " + m + " " + what, x.alone(f, m, what), y.alone(f, m, what));
            case 4 -> due("pays " + f + " " + m, x.pays(f, m), y.pays(f, m));
            case 5 -> {
                int few = random.nextInt(4) > 0 && m > 3 && m < 6 ? 2 : Math.min(m, 6);
                int asked = about(0, 2);
                due("shifted " + few + " " + asked, x.shifted(few, asked), y.shifted(few, asked));
            }
            case 6 -> {
                int few = random.nextInt(4) > 0 && m > 4 && m < 7 ? 3 : m;
                int asked = about(0, 1);
                due("felled " + few + " " + asked, x.felled(few, asked), y.felled(few, asked));
            }
            case 7 -> due("ends " + m, x.ends(m), y.ends(m));
            default -> {
                int sheaves = random.nextInt(8) == 0 ? about(0, 9999) : about(0, 40);
                due("soonest " + sheaves, x.soonest(sheaves), y.soonest(sheaves));
            }
        }
    }

    private void covers() {
        int set = random.nextBoolean() ? (1 << strips) - 1 : aSet();
        if (strips < 10 || random.nextInt(4) == 0) {
            due("halts " + set, x.halts(set), y.halts(set));
            due("tour " + set, x.tour(set), y.tour(set));
        }
    }

    private void stubble() {
        if (strips > 0 && random.nextInt(3) > 0) {
            stubbleRow();
            return;
        }
        int row = about(0, 3);
        int m = seldomHigh(8);
        due("stubble", x.stubble(row, m), y.stubble(row, m));
        due("sure", x.sure(row, m), y.sure(row, m));
    }

    private void others() {
        int moves = about(0, 3);
        int others = about(0, 3);
        due("meets", x.meets(moves, others), y.meets(moves, others));
        due("delay", x.delay(moves, others), y.delay(moves, others));
    }

    private void rowsAndImages() {
        fillRow();
        int row = about(0, 3);
        if (random.nextInt(5) == 0) {
            due("copy", x.copy(row), y.copy(row));
        }
        int i = about(0, 1);
        if (random.nextInt(4) == 0) {
            due("image", x.image(i), y.image(i));
        }
        if (random.nextInt(4) == 0) {
            due("restore", x.restore(i), y.restore(i));
            strips = y.count(0);
        }
    }
}
