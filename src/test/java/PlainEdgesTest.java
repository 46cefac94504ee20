
/** The edges that the document names for promises 1 to 6 and for texts, a sentence a method. */
public final class PlainEdgesTest {
    private static final Check check = new Check("PlainEdgesTest");

    public static void main(String[] args) {
        newObjectHasNoStrips();
        newObjectHasNoRowsAndImages();
        bytesComeHighestFirst();
        tapeHoldsNineHundred();
        plainTakesTheFirstBytes();
        plainRefusesLengths();
        plainIsAllNew();
        allStaysWithAFault();
        longestText();
        faultOfTheLatestRead();
        stripsLeastAndLargest();
        sixteenStrips();
        lampLeastAndLargest();
        othersLeastAndLargest();
        toldAhead();
        laterOnesStrike();
        tokensGoOn();
        eachLetterCounts();
        blanks();
        fourDigits();
        firstFaultAlongTheText();
        leastKindOfOneToken();
        theEnd();
        orderOfParts();
        stripAsks();
        farmAsks();
        check.finish();
    }

    private static void newObjectHasNoStrips() {
        RopeMoon x = new RopeMoon();
        for (int what = 0; what <= 5; what++) {
            check.due("strip(0, " + what + ")", x.strip(0, what), -2);
        }
        for (int f = 0; f <= 5; f++) {
            check.due("reaped of farm " + f, x.farm(f, 0), 0);
            check.due("standing of farm " + f, x.farm(f, 1), 0);
            check.due("bid of farm " + f, x.farm(f, 2), 1);
            check.due("strips of farm " + f, x.farm(f, 3), 0);
        }
        for (int move = 0; move <= 2; move++) {
            check.due("minute(" + move + ")", x.minute(move), -2);
        }
        check.due("light", x.light(0, 0), -2);
        check.due("lit", x.lit(0), -2);
        check.due("shaded", x.shaded(0), -2);
        check.due("high", x.high(0, 0), -2);
        check.due("highFor", x.highFor(1, false), -3);
        check.due("fell", x.fell(0), -2);
        check.due("walk", x.walk(0, 0, 0), -2);
        check.due("night", x.night(0, 1), -5);
        check.due("dark", x.dark(), 0);
        check.due("halts", x.halts(0), 0);
        check.due("tour", x.tour(0), 0);
        int[] counts = {0, 0, -1, 6, 6, 1, 60, 0, 0, 0, 0, 0, 0};
        for (int what = 0; what < counts.length; what++) {
            check.due("count(" + what + ")", x.count(what), counts[what]);
        }
    }

    private static void newObjectHasNoRowsAndImages() {
        RopeMoon x = new RopeMoon();
        for (int row = 0; row < 4; row++) {
            check.due("judge", x.judge(row, 0), -6);
            check.due("perform", x.perform(row), -6);
            check.due("write", x.write(row, 0, 0), -6);
            check.due("copy", x.copy(row), -6);
            check.due("stubble", x.stubble(row, 1), -6);
            check.due("sure", x.sure(row, 1), -6);
            check.due("meets", x.meets(row, row), -6);
            check.due("delay", x.delay(row, row), -6);
        }
        check.due("restore(0)", x.restore(0), -5);
        check.due("restore(1)", x.restore(1), -5);
        check.due("fault(0)", x.fault(0), 0);
        check.due("fault(1)", x.fault(1), -1);
    }

    private static void bytesComeHighestFirst() {
        for (int place = 0; place < 20; place++) {
            for (int odd : new int[] {'#', 0, 127, 128, 255}) {
                StringBuilder t = new StringBuilder(" ".repeat(20));
                t.setCharAt(place, (char) odd);
                RopeMoon x = new RopeMoon();
                check.due("byte " + odd, Check.tell(x, t.toString()), -31);
                check.due("place of it", x.fault(1), place);
            }
        }
        RopeMoon x = new RopeMoon();
        check.due("behind those there are", x.feed(0x6f696c20, 0x20202020, 0x20202020, 0x20202020, 0x20202031), 20);
        check.due("behind those there are", x.feed(0x323b0000, 0, 0, 0, 0), 40);
        check.due("oil 12", x.plain(22), 1);
        check.due("oil", x.count(6), 12);
    }

    private static RopeMoon fullTape() {
        RopeMoon x = new RopeMoon();
        for (int i = 0; i < 44; i++) {
            x.feed(0x20202020, 0x20202020, 0x20202020, 0x20202020, 0x20202020);
        }
        check.due("bytes of 44", x.count(11), 880);
        // "              oil 7;"
        check.due("just 900", x.feed(0x20202020, 0x20202020, 0x20202020, 0x20206f69, 0x6c20373b), 900);
        return x;
    }

    private static void tapeHoldsNineHundred() {
        RopeMoon x = fullTape();
        check.due("more than 900", x.feed(0x3b3b3b3b, 0x3b3b3b3b, 0x3b3b3b3b, 0x3b3b3b3b, 0x3b3b3b3b), -5);
        check.due("once more", x.feed(0, 0, 0, 0, 0), -5);
        check.due("bytes", x.count(11), 900);
        check.due("the last one is read", x.plain(900), 1);
        check.due("oil", x.count(6), 7);
        check.due("there is room again", x.feed(0, 0, 0, 0, 0), 20);
        Edge.refused(check, "feed of a full tape", PlainEdgesTest::fullTape, -5, y -> y.feed(1, 2, 3, 4, 5));
    }

    private static void plainTakesTheFirstBytes() {
        RopeMoon x = new RopeMoon();
        Check.feed(x, "oil 7;oil 8;#");
        check.due("the first six", x.plain(6), 1);
        check.due("oil", x.count(6), 7);
        check.due("the tape is empty then", x.count(11), 0);
        check.due("nothing is left", x.plain(1), -3);
        Check.feed(x, "oil 9;");
        check.due("it begins anew", x.plain(6), 1);
        check.due("oil", x.count(6), 9);
        Check.feed(x, "#");
        check.due("none of it", x.plain(0), 0);
        check.due("the tape is empty then", x.count(11), 0);
        check.due("oil as without", x.count(6), 60);
    }

    private static void plainRefusesLengths() {
        for (int n : new int[] {-1, 41, 900, 901, Integer.MIN_VALUE, Integer.MAX_VALUE}) {
            Edge.refused(check, "plain(" + n + ") of 40", Edge::busy, -3, x -> x.plain(n));
        }
        Edge.refused(check, "plain(1) of none", Edge::bare, -3, x -> x.plain(1));
        Edge.refused(check, "plain(901)", PlainEdgesTest::fullTape, -3, x -> x.plain(901));
        check.due("all there is", Edge.busy().plain(40), 4);
    }

    private static void plainIsAllNew() {
        RopeMoon x = Edge.busy();
        check.due("an empty text", x.plain(0), 0);
        Edge.alike(check, "without a text", Probe.plainOf(x), Probe.plainOf(new RopeMoon()));
        String text = "strip 5;strip 6;";
        x = Edge.busy();
        x.plain(0);
        check.due("another text", Check.tell(x, text), 2);
        Edge.alike(check, "another text", Probe.plainOf(x), Probe.plainOf(Check.told(text)));
        check.due("MINUTE", x.count(1), 0);
        check.due("reaped", x.count(10), 0);
        check.due("rows stay", x.judge(0, 0), 1);
        check.due("images stay", x.restore(0), 0);
        check.due("MINUTE of the image", x.count(1), 1);
    }

    private static void allStaysWithAFault() {
        String[] bad = {"strip 1;oil 9;lamp;bid 1 1;moths 1;cross 0;#", "strip 1;strip 1;;", "strip 100;", "strip",
            "strip 1;".repeat(17)};
        int[] code = {-31, -32, -33, -32, -34};
        for (int i = 0; i < bad.length; i++) {
            RopeMoon x = Edge.quiet();
            check.due("plain of " + bad[i], Check.tell(x, bad[i]), code[i]);
            check.due("the tape is empty then", x.count(11), 0);
            RopeMoon twin = Edge.quiet();
            Edge.alike(check, "all stays", Probe.plainOf(x), Probe.plainOf(twin));
            Edge.alike(check, "rows stay", Probe.rowsOf(x), Probe.rowsOf(twin));
        }
    }

    private static void longestText() {
        RopeMoon x = new RopeMoon();
        check.due("900 bytes of lamps", Check.tell(x, "lamp;".repeat(180)), 180);
        check.due("LINES", x.count(12), 180);
        check.due("a line ends with byte 900", Check.tell(x, " ".repeat(894) + "oil 3;"), 1);
        check.due("oil", x.count(6), 3);
        check.due("its end is beyond", Check.tell(x, " ".repeat(895) + "oil 3"), -32);
        check.due("at the text's length", x.fault(1), 900);
        check.due("nine hundred blanks", Check.tell(x, "\n".repeat(900)), 0);
        check.due("LINES", x.count(12), 0);
    }

    private static void faultOfTheLatestRead() {
        RopeMoon x = new RopeMoon();
        Check.tell(x, "oil 1;#");
        for (int n : new int[] {1, -1}) {
            check.due("not read", x.plain(n), -3);
            check.due("FAULT stays", x.fault(0), 1);
            check.due("place stays", x.fault(1), 6);
        }
        for (int what : new int[] {2, -1, Integer.MIN_VALUE, Integer.MAX_VALUE}) {
            check.due("fault(" + what + ")", x.fault(what), -1);
        }
        x.image(0);
        x.restore(0);
        check.due("restoring is no reading", x.fault(0), 1);
        Check.tell(x, "oil 1;");
        check.due("no FAULT", x.fault(0), 0);
        check.due("no place", x.fault(1), -1);
        Check.tell(x, "#");
        check.due("place 0", x.fault(1), 0);
        check.due("an empty text", x.plain(0), 0);
        check.due("no FAULT", x.fault(0), 0);
        check.due("no place", x.fault(1), -1);
    }

    private static void fault(String text, int kind, int place) {
        RopeMoon x = new RopeMoon();
        check.due("plain of " + text, Check.tell(x, text), -30 - kind);
        check.due("FAULT of " + text, x.fault(0), kind);
        check.due("place of it in " + text, x.fault(1), place);
    }

    private static void stripsLeastAndLargest() {
        RopeMoon x = Check.told("strip 0 reapers 0 tree 0 farm 0;strip 99 reapers 9 tree 30 farm 5;strip 50;");
        int[][] due = {{0, 0, 0, 0}, {99, 9, 30, 5}, {50, 2, 0, 0}};
        for (int s = 0; s < 3; s++) {
            for (int what = 0; what < 4; what++) {
                check.due("strip " + s + " " + what, x.strip(s, what), due[s][what]);
            }
        }
        fault("strip 100;", 3, 6);
        fault("strip 0 reapers 10;", 3, 16);
        fault("strip 0 tree 31;", 3, 13);
        fault("strip 0 farm 6;", 3, 13);
        check.due("TREE 0: none", x.fell(0), -5);
        check.due("TREE 30", x.fell(1), 30);
    }

    private static void sixteenStrips() {
        StringBuilder t = new StringBuilder();
        for (int s = 0; s < 16; s++) {
            t.append("strip ").append(80 + s).append(" farm ").append(s % 6).append(';');
        }
        RopeMoon x = new RopeMoon();
        check.due("16 lines", Check.tell(x, t + "lamp at 15;cross 15;"), 18);
        check.due("STRIPS", x.count(0), 16);
        for (int s = 0; s < 16; s++) {
            check.due("as they come", x.strip(s, 0), 80 + s);
        }
        check.due("strip 16", x.strip(16, 0), -2);
        check.due("over the last", x.count(2), 15);
        check.due("cross the last", x.count(8), 15);
        check.due("farm 3", x.farm(3, 3), 1 << 3 | 1 << 9 | 1 << 15);
        check.due("all lit from above", x.lit(15), 0xFC00);
        fault(t + "strip 1;", 4, t.length());
        fault(t + "oil 1; strip", 4, t.length() + 7);
        fault(t + "lamp at 16;", 3, t.length() + 8);
        fault(t + "cross 16;", 3, t.length() + 6);
    }

    private static void lampLeastAndLargest() {
        RopeMoon x = Check.told("strip 1;strip 1;lamp at 0 height 1 power 0 fade 0;");
        int[] least = {0, 1, 0, 0};
        for (int what = 2; what <= 5; what++) {
            check.due("least " + what, x.count(what), least[what - 2]);
        }
        x = Check.told("strip 1;strip 1;lamp at 1 height 30 power 20 fade 9;");
        int[] largest = {1, 30, 20, 9};
        for (int what = 2; what <= 5; what++) {
            check.due("largest " + what, x.count(what), largest[what - 2]);
        }
        fault("lamp height 0;", 3, 12);
        fault("lamp height 31;", 3, 12);
        fault("lamp power 21;", 3, 11);
        fault("lamp fade 10;", 3, 10);
        x = Check.told("strip 1;strip 1;lamp at 1 height 30 power 20 fade 9;lamp;");
        int[] without = {0, 6, 6, 1};
        for (int what = 2; what <= 5; what++) {
            check.due("what a lamp does not tell", x.count(what), without[what - 2]);
        }
    }

    private static void othersLeastAndLargest() {
        RopeMoon x = Check.told("strip 1;oil 0;bid 0 0;bid 5 99;moths 0;cross 0;");
        check.due("oil 0", x.count(6), 0);
        check.due("bid 0 of farm 0", x.farm(0, 2), 0);
        check.due("bid 99 of farm 5", x.farm(5, 2), 99);
        check.due("as without", x.farm(4, 2), 1);
        check.due("moths 0", x.count(7), 0);
        x = Check.told("oil 999;moths 100;");
        check.due("oil 999", x.count(6), 999);
        check.due("moths 100", x.count(7), 100);
        fault("oil 1000;", 1, 4);
        fault("bid 6 1;", 3, 4);
        fault("bid 0 100;", 3, 6);
        fault("moths 101;", 3, 6);
        fault("moths 999;", 3, 6);
    }

    private static void toldAhead() {
        fault("lamp at 0;strip 1;", 3, 8);
        fault("cross 0;strip 1;", 3, 6);
        fault("strip 1;lamp at 1;strip 1;", 3, 16);
        fault("strip 1;cross 1;strip 1;", 3, 14);
        RopeMoon x = Check.told("lamp power 3;strip 1;strip 2;lamp at 1;cross 1;strip 3;");
        check.due("over strip 1", x.count(2), 1);
        check.due("cross", x.count(8), 1);
        check.due("a lamp ahead of all strips", Check.told("lamp height 3;strip 1;").count(2), 0);
    }

    private static void laterOnesStrike() {
        RopeMoon x = Check.told("strip 1;strip 1;lamp at 1 power 9;lamp height 7;oil 1;oil 2;bid 3 4;bid 3 5;"
            + "moths 6;moths 7;cross 0;cross 1;");
        int[] due = {2, 0, 0, 7, 6, 1, 2, 7, 1, 2, 0, 0, 12};
        for (int what = 0; what < due.length; what++) {
            check.due("count(" + what + ")", x.count(what), due[what]);
        }
        check.due("bid", x.farm(3, 2), 5);
    }

    private static void tokensGoOn() {
        check.due("no blanks", Check.tell(new RopeMoon(), "strip1reapers2tree3farm4;lamp at0height5;oil6;"), 3);
        fault("striplamp", 2, 0);
        fault("lampat0;", 2, 0);
        fault("strip 1reapersx 2;", 2, 7);
        fault("strip 12 3;", 2, 9);
        fault("strip 1 ree 2;", 2, 8);
        fault("oill 1;", 2, 0);
        fault("oi 1;", 2, 0);
        fault("Oil 1;", 1, 0);
        fault("oIl 1;", 2, 0);
        fault("oil -1;", 1, 4);
        fault("oil +1;", 1, 4);
        fault("oil 1,", 1, 5);
        fault("oil 1:", 1, 5);
        fault("oil 1/", 1, 5);
        fault("oil `", 1, 4);
        fault("oil {", 1, 4);
    }

    private static void eachLetterCounts() {
        String[] texts = {"strip 1 reapers 1 tree 1 farm 1;", "strip 1;lamp at 0 height 1 power 1 fade 1;", "oil 1;",
            "bid 1 1;", "moths 1;", "strip 1;cross 0;"};
        for (String text : texts) {
            check.due("plain of " + text, Check.tell(new RopeMoon(), text) > 0 ? 1 : 0, 1);
            for (int i = 0; i < text.length(); i++) {
                if (text.charAt(i) >= 'a') {
                    StringBuilder odd = new StringBuilder(text);
                    odd.setCharAt(i, text.charAt(i) == 'z' ? 'a' : (char) (text.charAt(i) + 1));
                    int start = Math.max(text.lastIndexOf(' ', i), text.lastIndexOf(';', i)) + 1;
                    fault(odd.toString(), 2, start);
                }
            }
        }
    }

    private static void blanks() {
        check.due("10 and 32", Check.tell(new RopeMoon(), "\n oil \n\n 7 \n ; \n"), 1);
        for (int b = 0; b < 256; b++) {
            boolean token = b >= 'a' && b <= 'z' || b >= '0' && b <= '9' || b == ';';
            RopeMoon x = new RopeMoon();
            int due = b == 10 || b == 32 ? 0 : token ? -32 : -31;
            check.due("byte " + b + " alone", Check.tell(x, "" + (char) b), due);
            check.due("its place", x.fault(1), due == 0 ? -1 : 0);
        }
    }

    private static void fourDigits() {
        fault("oil 0000;", 1, 4);
        fault("oil 00000001;", 1, 4);
        fault("  12345", 1, 2);
        fault("oil 1 2345;", 1, 6);
        fault("strip 1;1000", 1, 8);
        for (String n : new String[] {"7", "07", "007"}) {
            check.due("oil " + n, Check.told("oil " + n + ";").count(6), 7);
        }
        check.due("oil 000", Check.told("oil 000;").count(6), 0);
        check.due("oil 123", Check.told("oil 123;").count(6), 123);
    }

    private static void firstFaultAlongTheText() {
        fault("oil;#", 2, 3);
        fault("oil 1 #;strip 100;", 1, 6);
        fault("strip 100;#", 3, 6);
        fault("moths 101 #", 3, 6);
        fault("strip 1 reapers 10 tree 31;", 3, 16);
        fault("bid 9 100;", 3, 4);
        fault("strip 1;".repeat(17) + "#", 4, 128);
        fault("strip 1;".repeat(16) + "# strip", 1, 128);
        fault("strip 1;".repeat(16) + "oil;strip", 2, 131);
        fault("lamp at 0 height 0;", 3, 8);
        fault("cross 0 0;", 3, 6);
    }

    private static void leastKindOfOneToken() {
        fault("oil 1 999;", 2, 6);
        fault("100;", 2, 0);
        fault("strip 1 100;", 2, 8);
        fault("strip 1;".repeat(16) + "oil strip 1;", 2, 132);
        fault("strip 1;".repeat(16) + "lamp strip", 2, 133);
        fault("oil 9999;", 1, 4);
        fault("9999", 1, 0);
        fault("strip strip", 2, 6);
        fault("oil ~", 1, 4);
    }

    private static void theEnd() {
        fault("strip", 2, 5);
        fault("strip  ", 2, 7);
        fault("strip 1", 2, 7);
        fault("strip 1 reapers", 2, 15);
        fault("strip 1 reapers 2", 2, 17);
        fault("lamp", 2, 4);
        fault("lamp height 3\n\n", 2, 15);
        fault("bid 1", 2, 5);
        fault("bid 1 2", 2, 7);
        fault("cross", 2, 5);
        fault("moths ", 2, 6);
    }

    private static void orderOfParts() {
        fault("strip 1 tree 1 reapers 1;", 2, 15);
        fault("strip 1 farm 1 tree 1;", 2, 15);
        fault("strip 1 farm 1 reapers 1;", 2, 15);
        fault("strip 1 farm 1 farm 1;", 2, 15);
        fault("strip 1 reapers 1 reapers 1;", 2, 18);
        fault("strip reapers 1;", 2, 6);
        fault("strip 1;lamp height 1 at 0;", 2, 22);
        fault("lamp power 1 height 1;", 2, 13);
        fault("lamp fade 1 power 1;", 2, 12);
        fault("lamp fade 1 fade 1;", 2, 12);
        fault("lamp 1;", 2, 5);
        fault("oil;", 2, 3);
        fault("oil oil;", 2, 4);
        fault("bid 1;", 2, 5);
        fault("bid 1 2 3;", 2, 8);
        fault("reapers 1;", 2, 0);
        fault(";;", 2, 0);
        check.due("each part alone", Check.tell(new RopeMoon(), "strip 1 reapers 3;strip 1 tree 3;strip 1 farm 3;"
            + "strip 1 reapers 1 farm 1;strip 1 tree 1 farm 1;lamp at 1;lamp height 2;lamp power 2;lamp fade 2;"
            + "lamp at 0 power 2;lamp height 3 fade 2;"), 11);
    }

    private static void stripAsks() {
        for (int what = 0; what <= 5; what++) {
            int asked = what;
            for (int s : new int[] {-1, 4, 15, 16, Integer.MIN_VALUE, Integer.MAX_VALUE}) {
                Edge.refused(check, "strip(" + s + ", " + what + ")", Edge::busy, -2, x -> x.strip(s, asked));
            }
        }
        for (int what : new int[] {-1, 6, Integer.MIN_VALUE, Integer.MAX_VALUE}) {
            Edge.refused(check, "strip(0, " + what + ")", Edge::busy, -2, x -> x.strip(0, what));
        }
        RopeMoon x = Check.told("strip 1 reapers 1;strip 9 reapers 9 tree 30;strip 9 reapers 0;lamp power 6 fade 2;oil 1;");
        int[][] due = {{1, 1, 0, 0, 0, 6}, {9, 9, 30, 0, 0, 4}, {9, 0, 0, 0, 0, 0}};
        sixOf(x, due);
        check.due("one and four", x.minute(0), 5);
        due = new int[][] {{0, 1, 0, 0, 1, 6}, {5, 9, 30, 0, 4, 4}, {9, 0, 0, 0, 0, 0}};
        check.due("no oil", x.count(6), 0);
        sixOf(x, due);
    }

    private static void sixOf(RopeMoon x, int[][] due) {
        for (int s = 0; s < due.length; s++) {
            for (int what = 0; what <= 5; what++) {
                check.due("strip(" + s + ", " + what + ")", x.strip(s, what), due[s][what]);
            }
        }
    }

    private static void farmAsks() {
        for (int what = 0; what <= 3; what++) {
            int asked = what;
            for (int f : new int[] {-1, 6, Integer.MIN_VALUE, Integer.MAX_VALUE}) {
                Edge.refused(check, "farm(" + f + ", " + what + ")", Edge::busy, -2, x -> x.farm(f, asked));
            }
        }
        for (int what : new int[] {-1, 4, Integer.MIN_VALUE, Integer.MAX_VALUE}) {
            Edge.refused(check, "farm(0, " + what + ")", Edge::busy, -2, x -> x.farm(0, what));
        }
        RopeMoon x = Check.told("strip 9 farm 5;strip 9;strip 9 farm 5;bid 5 99;lamp power 1;");
        int[] due = {0, 18, 99, 5};
        for (int what = 0; what <= 3; what++) {
            check.due("farm 5 " + what, x.farm(5, what), due[what]);
        }
        check.due("one", x.minute(0), 1);
        check.due("reaped", x.farm(5, 0), 1);
        check.due("standing", x.farm(5, 1), 17);
        check.due("of another", x.farm(0, 0), 0);
        check.due("without strips", x.farm(3, 1), 0);
    }
}
