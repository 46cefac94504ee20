/** The edges that the document names for ROWS OF NUMBERS, IMAGES and promises 36 to 41, a sentence a method. */
public final class RowEdgesTest {
    private static final Check check = new Check("RowEdgesTest");

    public static void main(String[] args) {
        numbersRefusals();
        noneToForty();
        allNothingInPlaceOfAnother();
        rowsAreApart();
        writeCuts();
        writeRefusals();
        copies();
        copyRefusals();
        copyLengths();
        imageRefusals();
        imagesHoldAll();
        imagesAreApart();
        imageOfNoStrips();
        imagesHoldThePlainAlone();
        counts();
        lastCall();
        check.finish();
    }

    private static void numbersRefusals() {
        for (int row : Edge.NO_ROW) {
            Edge.refused(check, "numbers(" + row + ", 0, 1)", Edge::busy, -2, x -> x.numbers(row, 0, 1));
            Edge.refused(check, "numbers(" + row + ", 0, 41)", Edge::busy, -2, x -> x.numbers(row, 0, 41));
        }
        for (int sort : new int[] {-1, 4, 8, Integer.MIN_VALUE, Integer.MAX_VALUE}) {
            Edge.refused(check, "numbers(0, " + sort + ", 1)", Edge::busy, -2, x -> x.numbers(0, sort, 1));
            Edge.refused(check, "numbers(0, " + sort + ", -1)", Edge::busy, -2, x -> x.numbers(0, sort, -1));
            Edge.refused(check, "numbers(3, " + sort + ", 1)", Edge::busy, -2, x -> x.numbers(3, sort, 1));
        }
        for (int n : new int[] {-1, 41, Integer.MIN_VALUE, Integer.MAX_VALUE}) {
            Edge.refused(check, "numbers(0, 3, " + n + "): the ROW stays", Edge::busy, -3, x -> x.numbers(0, 3, n));
            Edge.refused(check, "numbers(3, 0, " + n + "): it stays MISSING", Edge::busy, -3, x -> x.numbers(3, 0, n));
        }
    }

    private static void noneToForty() {
        for (int row = 0; row < 4; row++) {
            for (int sort = 0; sort < 4; sort++) {
                RopeMoon x = new RopeMoon();
                check.due("none", x.numbers(row, sort, 0), 0);
                check.due("no place", x.write(row, 0, 1), -7);
                check.due("one", x.numbers(row, sort, 1), 0);
                check.due("its place", x.write(row, 0, 1), 1);
                check.due("no second", x.write(row, 1, 1), -7);
                check.due("forty", x.numbers(row, sort, 40), 0);
                check.due("the last place", x.write(row, 39, 1), 1);
                check.due("none behind it", x.write(row, 40, 1), -7);
            }
        }
    }

    private static void allNothingInPlaceOfAnother() {
        RopeMoon x = Check.told("strip 9 reapers 0;strip 9 reapers 0;oil 99;");
        x.numbers(0, 3, 40);
        for (int i = 0; i < 40; i++) {
            x.write(0, i, 3);
        }
        check.due("no MOVE", x.judge(0, 0), 0);
        check.due("another one", x.numbers(0, 0, 40), 0);
        check.due("all 0: it stays", x.judge(0, 0), -1);
        check.due("of the new sort", x.write(0, 39, 256 + 3), 3);
        check.due("the last is no MOVE", x.judge(0, 0), 39);
        check.due("a shorter one", x.numbers(0, 0, 2), 0);
        check.due("a longer one", x.numbers(0, 0, 40), 0);
        check.due("all 0 again", x.judge(0, 0), -1);
    }

    private static void rowsAreApart() {
        RopeMoon x = Check.told("strip 9 reapers 0;oil 99;");
        for (int row = 0; row < 4; row++) {
            x.numbers(row, row, 10 + row);
            x.write(row, row, 3);
        }
        for (int row = 0; row < 4; row++) {
            check.due("its own number", x.judge(row, 0), row);
            check.due("its own last place", x.write(row, 9 + row, 0), 0);
            check.due("its own length", x.write(row, 10 + row, 0), -7);
            check.due("its own sort", x.write(row, 0, 0x5A5A5A5A5A5A5A5AL),
                0x5A5A5A5A5A5A5A5AL & (row == 3 ? -1L : (1L << (8 << row)) - 1));
        }
    }

    private static void writeCuts() {
        long[][] due = {
            {127, 127, 127, 127, 127}, {128, -128, 128, 128, 128}, {255, -1, 255, 255, 255}, {256, 0, 256, 256, 256},
            {-1, -1, -1, -1, -1}, {-128, -128, -128, -128, -128}, {-129, 127, -129, -129, -129},
            {32767, -1, 32767, 32767, 32767}, {32768, 0, -32768, 32768, 32768}, {65535, -1, -1, 65535, 65535},
            {65536, 0, 0, 65536, 65536}, {-32768, 0, -32768, -32768, -32768}, {-32769, -1, 32767, -32769, -32769},
            {2147483647L, -1, -1, 2147483647L, 2147483647L}, {2147483648L, 0, 0, -2147483648L, 2147483648L},
            {4294967295L, -1, -1, -1, 4294967295L}, {4294967296L, 0, 0, 0, 4294967296L},
            {-2147483649L, -1, -1, 2147483647L, -2147483649L},
            {Long.MAX_VALUE, -1, -1, -1, Long.MAX_VALUE}, {Long.MIN_VALUE, 0, 0, 0, Long.MIN_VALUE}, {0, 0, 0, 0, 0}};
        RopeMoon x = new RopeMoon();
        for (int sort = 0; sort < 4; sort++) {
            x.numbers(sort, sort, 40);
            for (long[] d : due) {
                check.due(d[0] + " cut to sort " + sort, x.write(sort, 39, d[0]), d[1 + sort]);
            }
        }
    }

    private static void writeRefusals() {
        for (int row : Edge.NO_ROW) {
            Edge.refused(check, "write(" + row + ", 0, 1)", Edge::busy, -2, x -> x.write(row, 0, 1));
            Edge.refused(check, "write(" + row + ", 99, 1)", Edge::busy, -2, x -> x.write(row, 99, 1));
        }
        for (int i : new int[] {0, -1, 40}) {
            Edge.refused(check, "write(3, " + i + ", 1)", Edge::busy, -6, x -> x.write(3, i, 1));
        }
        for (int i : new int[] {-1, 5, 39, 40, Integer.MIN_VALUE, Integer.MAX_VALUE}) {
            Edge.refused(check, "write(0, " + i + ", 2)", Edge::busy, -7, x -> x.write(0, i, 2));
        }
        check.due("the first of five", Edge.busy().write(0, 0, 2), 2);
        check.due("the last of five", Edge.busy().write(0, 4, 2), 2);
    }

    /** The row holds these crops, as no other stubble is left where nobody reaps. */
    private static void holds(String what, RopeMoon x, int row, String crops) {
        StringBuilder text = new StringBuilder();
        for (String crop : crops.split(" ")) {
            text.append("strip ").append(crop).append(" reapers 0;");
        }
        x.image(1);
        Check.tell(x, text.toString());
        check.due(what, x.stubble(row, 1) > 0 ? 1 : 0, 1);
        x.restore(1);
    }

    private static void copies() {
        RopeMoon x = Check.told("strip 0;strip 99 reapers 9;strip 5 reapers 1;lamp at 1 power 20;");
        for (int row = 0; row < 4; row++) {
            x.numbers(row, row, 3);
            check.due("how many", x.copy(row), 3);
            holds("0, 99, 5", x, row, "0 99 5");
        }
        x.minute(0);
        holds("as they were", x, 2, "0 99 5");
        check.due("CROPS now", x.copy(2), 3);
        holds("0, 90, 4", x, 2, "0 90 4");
        Check.row(x, 0, 0, 7, 7, 7, 8, 9);
        check.due("from the first place on", x.copy(0), 3);
        holds("the others stay", x, 0, "0 90 4 8 9");
    }

    private static void copyRefusals() {
        for (int row : Edge.NO_ROW) {
            Edge.refused(check, "copy(" + row + ")", Edge::busy, -2, x -> x.copy(row));
            Edge.refused(check, "copy(" + row + ") without strips", Edge::bare, -2, x -> x.copy(row));
        }
        Edge.refused(check, "copy(3)", Edge::busy, -6, x -> x.copy(3));
        Edge.refused(check, "copy(0) without strips", Edge::bare, -6, x -> x.copy(0));
        Edge.refused(check, "copy into three places", Edge.withRow(Edge::busy, 3), -7, x -> x.copy(0));
        Edge.refused(check, "copy into none", Edge.withRow(Edge::busy, 0), -7, x -> x.copy(0));
        RopeMoon x = Edge.quiet();
        Check.row(x, 0, 0, 11, 12, 13);
        check.due("too short", x.copy(0), -7);
        holds("nothing comes", x, 0, "11 12 13");
    }

    private static void copyLengths() {
        check.due("just four", Edge.withRow(Edge::busy, 4).make().copy(0), 4);
        check.due("forty", Edge.withRow(Edge::busy, 40).make().copy(0), 4);
        check.due("no strips into none", Edge.withRow(Edge::bare, 0).make().copy(0), 0);
        check.due("no strips into forty", Edge.withRow(Edge::bare, 40).make().copy(0), 0);
        RopeMoon x = Check.told("strip 77;".repeat(16));
        x.numbers(0, 0, 16);
        check.due("sixteen", x.copy(0), 16);
        holds("sixteen", x, 0, "77 ".repeat(16).trim());
        x.numbers(0, 0, 15);
        check.due("one too few", x.copy(0), -7);
    }

    private static void imageRefusals() {
        for (int i : new int[] {-1, 2, Integer.MIN_VALUE, Integer.MAX_VALUE}) {
            Edge.refused(check, "image(" + i + ")", Edge::busy, -2, x -> x.image(i));
            Edge.refused(check, "restore(" + i + ")", Edge::busy, -2, x -> x.restore(i));
            Edge.refused(check, "restore(" + i + ")", Edge::bare, -2, x -> x.restore(i));
        }
        Edge.refused(check, "restore(1)", Edge::busy, -5, x -> x.restore(1));
        Edge.refused(check, "restore(0)", Edge::bare, -5, x -> x.restore(0));
        Edge.refused(check, "restore(1)", Edge::bare, -5, x -> x.restore(1));
    }

    private static void changeAll(RopeMoon x) {
        x.minute(1);
        x.night(9, 3);
        x.height(29);
        x.fell(1);
        x.fell(3);
        x.walk(0, 2, 2);
        x.fill(77);
    }

    private static void imagesHoldAll() {
        for (int i = 0; i < 2; i++) {
            RopeMoon x = Edge.quiet();
            check.due("image", x.image(i), 0);
            changeAll(x);
            check.due("restore", x.restore(i), 0);
            Edge.alike(check, "all is as it was", Probe.plainOf(x), Probe.plainOf(Edge.quiet()));
            Check.tell(x, "strip 1;lamp height 9 power 9 fade 9;oil 9;bid 1 9;bid 2 9;moths 9;");
            check.due("restore behind another plain", x.restore(i), 0);
            Edge.alike(check, "all is as it was", Probe.plainOf(x), Probe.plainOf(Edge.quiet()));
            check.due("restore again", x.restore(i), 0);
            Edge.alike(check, "all is as it was", Probe.plainOf(x), Probe.plainOf(Edge.quiet()));
        }
        RopeMoon x = Edge.quiet();
        x.image(1);
        changeAll(x);
        x.restore(1);
        RopeMoon twin = Edge.quiet();
        twin.image(1);
        changeAll(x);
        changeAll(twin);
        Edge.alike(check, "it goes on from there", Probe.everythingOf(x), Probe.everythingOf(twin));
    }

    private static void imagesAreApart() {
        RopeMoon x = Check.told("strip 9;oil 9;");
        x.image(0);
        x.minute(0);
        x.image(1);
        x.minute(0);
        check.due("the first", x.restore(0), 0);
        check.due("MINUTE", x.count(1), 0);
        check.due("the second", x.restore(1), 0);
        check.due("MINUTE", x.count(1), 1);
        x.minute(0);
        x.minute(0);
        check.due("made again", x.image(0), 0);
        x.restore(1);
        check.due("MINUTE", x.count(1), 1);
        x.restore(0);
        check.due("MINUTE", x.count(1), 3);
        check.due("CROP", x.strip(0, 0), 3);
    }

    private static void imageOfNoStrips() {
        RopeMoon x = new RopeMoon();
        check.due("image", x.image(0), 0);
        Check.tell(x, "strip 9;oil 3;");
        check.due("restore", x.restore(0), 0);
        Edge.alike(check, "no strips", Probe.plainOf(x), Probe.plainOf(new RopeMoon()));
        check.due("the other one", x.restore(1), -5);
    }

    private static void imagesHoldThePlainAlone() {
        RopeMoon x = Edge.busy();
        x.numbers(3, 0, 2);
        x.write(0, 0, 3);
        check.due("restore", x.restore(0), 0);
        check.due("rows stay", x.judge(0, 0), 0);
        check.due("rows stay", x.judge(3, 0), -1);
        check.due("the tape stays", x.count(11), 40);
        check.due("the fault stays", x.fault(0), 1);
        check.due("MINUTE of the image", x.count(1), 1);
    }

    private static void counts() {
        RopeMoon x = Check.told("strip 9 reapers 1;strip 8;strip 7 reapers 0;lamp at 2 height 3 power 4 fade 1;"
            + "oil 5;moths 66;cross 1;");
        Check.feed(x, "oil 1;");
        int[] due = {3, 0, 2, 3, 4, 1, 5, 66, 1, 24, 0, 20, 7};
        for (int what = 0; what < due.length; what++) {
            check.due("count(" + what + ")", x.count(what), due[what]);
        }
        x.minute(1);
        due = new int[] {3, 1, 1, 3, 4, 1, 4, 66, 1, 21, 3, 20, 7};
        for (int what = 0; what < due.length; what++) {
            check.due("count(" + what + ")", x.count(what), due[what]);
        }
        for (int what : new int[] {-1, 13, Integer.MIN_VALUE, Integer.MAX_VALUE}) {
            check.due("count(" + what + ")", x.count(what), -1);
        }
    }

    private static void lastCall() {
        RopeMoon x = new RopeMoon();
        for (int call = 1; call < 512; call++) {
            x.fill(1);
        }
        check.due("the 512th call", x.fill(0), 571);
    }
}
