/** Promises 36 to 41: numbers, write, copy, image, restore, count. */
public final class RowsTest {
    private static final Check check = new Check("RowsTest");

    public static void main(String[] args) {
        numbers();
        writing();
        copying();
        images();
        counts();
        check.due("NONE", RopeMoon.NONE, -1);
        check.finish();
    }

    private static void numbers() {
        RopeMoon x = new RopeMoon();
        check.due("row", x.numbers(-1, 0, 1), -2);
        check.due("row", x.numbers(4, 0, 41), -2);
        check.due("sort", x.numbers(0, -1, 1), -2);
        check.due("sort", x.numbers(0, 4, 41), -2);
        check.due("n", x.numbers(0, 0, 41), -3);
        check.due("still missing", x.write(0, 0, 1), -6);
        check.due("n", x.numbers(3, 3, 40), 0);
        check.due("write", x.write(3, 39, 5), 5);
        check.due("n", x.numbers(3, 0, -1), -3);
        check.due("it stays", x.write(3, 39, 1000), 1000);
        check.due("in place of it", x.numbers(3, 1, 2), 0);
        check.due("shorter", x.write(3, 2, 1), -7);
        check.due("empty", x.numbers(3, 1, 0), 0);
        check.due("no number", x.write(3, 0, 1), -7);
        Check.tell(x, "strip 1;strip 1;");
        Check.row(x, 0, 0, 1, 2);
        x.numbers(0, 0, 2);
        check.due("all 0: it stays twice", x.judge(0, 0), -1);
    }

    private static void writing() {
        RopeMoon x = new RopeMoon();
        check.due("row", x.write(4, 0, 0), -2);
        check.due("row", x.write(-1, 0, 0), -2);
        check.due("missing", x.write(2, -1, 0), -6);
        long v = 0x8070605040B0C0FFL;
        long[] due = {-1, (short) 0xC0FF, 0x40B0C0FF, v};
        for (int sort = 0; sort < 4; sort++) {
            x.numbers(sort, sort, 3);
            check.due("cut", x.write(sort, 2, v), due[sort]);
            check.due("cut", x.write(sort, 0, 127), 127);
            check.due("cut", x.write(sort, 0, 128), sort == 0 ? -128 : 128);
            check.due("cut", x.write(sort, 0, 32768), sort == 0 ? 0 : sort == 1 ? -32768 : 32768);
            check.due("cut", x.write(sort, 0, 1L << 31), sort < 2 ? 0 : sort == 2 ? -2147483648L : 1L << 31);
            check.due("place", x.write(sort, 3, v), -7);
            check.due("place", x.write(sort, -1, v), -7);
        }
    }

    private static void copying() {
        RopeMoon x = Check.told("strip 2;strip 1 reapers 0;");
        check.due("row", x.copy(4), -2);
        check.due("row", x.copy(-1), -2);
        check.due("missing", x.copy(0), -6);
        Check.row(x, 0, 0, 1);
        check.due("too short", x.copy(0), -7);
        check.due("nothing came", x.judge(0, 1), 1);
        Check.row(x, 0, 0, 3, 3, 7);
        check.due("copied", x.copy(0), 2);
        check.due("behind them it stays", x.judge(0, 0), 2);
        check.due("the crops as moves", x.judge(0, 3), 0);
        x.minute(0);
        check.due("crops now", x.copy(0), 2);
        check.due("0 1 7 as moves", x.judge(0, 0), 1);
        check.due("without strips", new RopeMoon().copy(0), -6);
        RopeMoon bare = new RopeMoon();
        Check.row(bare, 0, 0);
        check.due("none", bare.copy(0), 0);
    }

    private static void images() {
        RopeMoon x = new RopeMoon();
        check.due("image(2)", x.image(2), -2);
        check.due("image(-1)", x.image(-1), -2);
        check.due("restore(2)", x.restore(2), -2);
        check.due("restore(-1)", x.restore(-1), -2);
        check.due("none made", x.restore(0), -5);
        check.due("of no strips", x.image(1), 0);
        Check.tell(x, "strip 9 tree 3;strip 9;strip 9;lamp at 1 height 3 power 3 fade 1;oil 9;bid 0 4;moths 5;cross 2;");
        x.minute(0);
        check.due("image", x.image(0), 0);
        x.minute(2);
        x.height(9);
        x.fell(0);
        x.walk(0, 1, 1);
        x.fill(5);
        Check.row(x, 0, 0, 1, 2);
        check.due("restore", x.restore(0), 0);
        int[] due = {3, 1, 1, 3, 3, 1, 8, 5, 2, 21, 6, 0, 8};
        for (int what = 0; what < due.length; what++) {
            check.due("count " + what, x.count(what), due[what]);
        }
        check.due("tree", x.strip(0, 2), 3);
        check.due("reapers", x.strip(1, 1), 2);
        check.due("reaped", x.strip(1, 4), 2);
        check.due("bid", x.farm(0, 2), 4);
        x.minute(0);
        Check.tell(x, "strip 1;");
        check.due("again", x.restore(0), 0);
        check.due("minute", x.count(1), 1);
        check.due("lines", x.count(12), 8);
        check.due("no strips", x.restore(1), 0);
        check.due("strips", x.count(0), 0);
        check.due("hangs", x.count(2), -1);
        check.due("the other image stays", x.restore(0), 0);
        check.due("strips", x.count(0), 3);
    }

    private static void counts() {
        RopeMoon x = Check.told("strip 9;strip 8 reapers 4;lamp at 1 height 2 power 3 fade 0;oil 7;moths 4;cross 1;");
        Check.feed(x, "oil 1;");
        x.minute(1);
        int[] due = {2, 1, 0, 2, 3, 0, 6, 4, 1, 12, 5, 20, 6};
        for (int what = 0; what < due.length; what++) {
            check.due("count " + what, x.count(what), due[what]);
        }
        check.due("count 13", x.count(13), -1);
        check.due("count -1", x.count(-1), -1);
    }
}
