/** Promises 1 to 4: a new object, feed, plain, fault; and the faults of texts. */
public final class TextTest {
    private static final Check check = new Check("TextTest");

    public static void main(String[] args) {
        newObject();
        tape();
        defaults();
        faults();
        stays();
        later();
        check.finish();
    }

    private static void newObject() {
        RopeMoon x = new RopeMoon();
        int[] due = {0, 0, -1, 6, 6, 1, 60, 0, 0, 0, 0, 0, 0};
        for (int what = 0; what < due.length; what++) {
            check.due("new count(" + what + ")", x.count(what), due[what]);
        }
        check.due("count(13)", x.count(13), -1);
        check.due("count(-1)", x.count(-1), -1);
        check.due("fault(0)", x.fault(0), 0);
        check.due("fault(1)", x.fault(1), -1);
        check.due("fault(2)", x.fault(2), -1);
        check.due("fault(-1)", x.fault(-1), -1);
        check.due("farm bid", x.farm(5, 2), 1);
        check.due("farm bits", x.farm(0, 3), 0);
    }

    private static void tape() {
        RopeMoon x = new RopeMoon();
        for (int i = 1; i <= 45; i++) {
            check.due("feed", x.feed(0x20202020, 0x20202020, 0x20202020, 0x20202020, 0x20202020), 20 * i);
        }
        check.due("feed on a full tape", x.feed(1, 2, 3, 4, 5), -5);
        check.due("bytes", x.count(11), 900);
        check.due("plain(901)", x.plain(901), -3);
        check.due("plain(-1)", x.plain(-1), -3);
        check.due("bytes stay", x.count(11), 900);
        check.due("plain(900) of blanks", x.plain(900), 0);
        check.due("no bytes", x.count(11), 0);
        x.feed(0x6f696c20, 0x373b0a0a, 0x01020304, 0, 0);
        check.due("the highest byte first", x.plain(8), 1);
        check.due("oil", x.count(6), 7);
    }

    private static void defaults() {
        RopeMoon x = new RopeMoon();
        check.due("lines", Check.tell(x, "strip 7;strip 8 tree 3;\nlamp at 1 fade 0;bid 2 9;"), 4);
        check.due("LINES", x.count(12), 4);
        check.due("crop", x.strip(0, 0), 7);
        check.due("reapers", x.strip(0, 1), 2);
        check.due("tree", x.strip(0, 2), 0);
        check.due("tree", x.strip(1, 2), 3);
        check.due("farm", x.strip(1, 3), 0);
        check.due("at", x.count(2), 1);
        check.due("height", x.count(3), 6);
        check.due("power", x.count(4), 6);
        check.due("fade", x.count(5), 0);
        check.due("oil", x.count(6), 60);
        check.due("bid", x.farm(2, 2), 9);
        check.due("tight text", Check.tell(x, "strip9reapers3tree4farm5;lamp at0height1power0fade9;oil999;moths100;cross0;"), 5);
        check.due("reapers", x.strip(0, 1), 3);
        check.due("tree", x.strip(0, 2), 4);
        check.due("farm", x.strip(0, 3), 5);
        check.due("height", x.count(3), 1);
        check.due("oil", x.count(6), 999);
        check.due("moths", x.count(7), 100);
        check.due("bid as without", x.farm(2, 2), 1);
        check.due("three digits", Check.tell(x, "strip 007;"), 1);
        check.due("crop", x.strip(0, 0), 7);
    }

    private static void fault(String text, int kind, int place) {
        RopeMoon x = new RopeMoon();
        check.due("plain of " + text, Check.tell(x, text), -30 - kind);
        check.due("fault(0) of " + text, x.fault(0), kind);
        check.due("fault(1) of " + text, x.fault(1), place);
    }

    private static void bounds(String text, int low, int high) {
        for (int n = 0; n <= 999; n += n < 110 ? 1 : n == 998 ? 1 : 37) {
            int got = Check.tell(new RopeMoon(), text.replace("N", Integer.toString(n)));
            check.due(text + " " + n, got < 0 ? got : 0, n < low || n > high ? -33 : 0);
        }
        if (high < 999) {
            fault(text.replace("N", Integer.toString(high + 1)), 3, text.indexOf('N'));
        }
    }

    private static void faults() {
        fault("Strip 1;", 1, 0);
        fault("strip\t1;", 1, 5);
        fault("strip 1;" + (char) 233, 1, 8);
        fault("strip 1" + (char) 0, 1, 7);
        fault("strip 1234;", 1, 6);
        fault("1234", 1, 0);
        fault("123", 2, 0);
        fault(";", 2, 0);
        fault("strip 1;;", 2, 8);
        fault("strips 1;", 2, 0);
        fault("stri 1;", 2, 0);
        fault("strip", 2, 5);
        fault("strip \n ", 2, 8);
        fault("strip ;", 2, 6);
        fault("strip 1 2;", 2, 8);
        fault("strip 1 reapers;", 2, 15);
        fault("strip 1 tree 2 reapers 3;", 2, 15);
        fault("strip 1 tree 2 tree 3;", 2, 15);
        fault("strip 1 lamp;", 2, 8);
        fault("strip 1;lamp at 1;", 3, 16);
        fault("strip 1;cross 1;", 3, 14);
        fault("strip 1;lamp fade 1 power 1;", 2, 20);
        fault("lamp height 999;", 3, 12);
        fault("oil 1 2;", 2, 6);
        fault("bid 1 2 3;", 2, 8);
        fault("bid 6 #", 3, 4);
        fault("oil strip", 2, 4);
        fault("z", 2, 0);
        fault("a", 2, 0);
        fault("`", 1, 0);
        fault("{", 1, 0);
        fault("/", 1, 0);
        fault(":", 1, 0);
        bounds("strip N;", 0, 99);
        bounds("strip 1 reapers N;", 0, 9);
        bounds("strip 1 tree N;", 0, 30);
        bounds("strip 1 farm N;", 0, 5);
        bounds("strip 1;strip 1;lamp at N;", 0, 1);
        bounds("lamp height N;", 1, 30);
        bounds("lamp power N;", 0, 20);
        bounds("lamp fade N;", 0, 9);
        bounds("oil N;", 0, 999);
        bounds("bid N 1;", 0, 5);
        bounds("bid 0 N;", 0, 99);
        bounds("moths N;", 0, 100);
        bounds("strip 1;strip 1;cross N;", 0, 1);
        String full = "strip 1;".repeat(16);
        fault(full + "strip", 4, 128);
        fault(full + "strip 100;", 4, 128);
        fault(full + "oil strip", 2, 132);
        check.due("16 strips", Check.tell(new RopeMoon(), full + " "), 16);
    }

    private static void stays() {
        RopeMoon x = Check.told("strip 9 tree 2;strip 8;lamp at 1;oil 5;bid 0 7;moths 3;cross 1;");
        x.minute(1);
        check.due("a fault", Check.tell(x, "strip 1;oil 3;lamp;bid 0 1;moths 1;cross 0;strip 2;?"), -31);
        check.due("tape", x.count(11), 0);
        int[] due = {2, 1, 0, 6, 6, 1, 4, 3, 1, 13, 4, 0, 7};
        for (int what = 0; what < due.length; what++) {
            check.due("kept count(" + what + ")", x.count(what), due[what]);
        }
        check.due("bid", x.farm(0, 2), 7);
        check.due("fault", x.fault(1), 51);
        check.due("not read", x.plain(1), -3);
        check.due("fault stays", x.fault(0), 1);
        check.due("empty text", x.plain(0), 0);
        check.due("fault", x.fault(0), 0);
        check.due("place", x.fault(1), -1);
        check.due("minute", x.count(1), 0);
        check.due("strips", x.count(0), 0);
        check.due("hangs", x.count(2), -1);
        check.due("oil", x.count(6), 60);
        check.due("reaped", x.count(10), 0);
    }

    private static void later() {
        RopeMoon x = Check.told("strip 1;strip 2;lamp at 1 height 9 power 9 fade 9;lamp power 3;oil 4;oil 5;"
            + "bid 1 2;bid 1 3;moths 1;moths 2;cross 1;cross 0;");
        int[] due = {2, 0, 0, 6, 3, 1, 5, 2, 0, 3, 0, 0, 12};
        for (int what = 0; what < due.length; what++) {
            check.due("later count(" + what + ")", x.count(what), due[what]);
        }
        check.due("later bid", x.farm(1, 2), 3);
    }
}
