/** Promises 32 to 35: stubble, sure, meets, delay. */
public final class StubbleTest {
    private static final Check check = new Check("StubbleTest");
    private static final String SPOT = "strip 9 reapers 1;strip 9 reapers 1;strip 9 reapers 1;"
        + "lamp at 1 power 9 fade 9;oil 4;cross 2;";

    public static void main(String[] args) {
        refusals();
        stubble();
        meetingRefusals();
        meetings();
        delays();
        check.finish();
    }

    private static void refusals() {
        RopeMoon x = Check.told(SPOT);
        check.due("row", x.stubble(4, 9), -2);
        check.due("row", x.sure(-1, 9), -2);
        check.due("missing", x.stubble(0, 9), -6);
        check.due("missing", x.sure(0, 9), -6);
        Check.row(x, 0, 0, 9, 9);
        check.due("too few", x.stubble(0, 9), -7);
        Check.row(x, 0, 0, 9, 9, 9, 9);
        check.due("too many", x.sure(0, 9), -7);
        Check.row(x, 0, 0, 9, 9, 9);
        check.due("m", x.stubble(0, 0), -3);
        check.due("m", x.stubble(0, 9), -3);
        check.due("m", x.sure(0, 9), -3);
        RopeMoon bare = new RopeMoon();
        Check.row(bare, 0, 0);
        check.due("m ahead of no strips", bare.stubble(0, 9), -3);
        check.due("no strips", bare.stubble(0, 1), -5);
        check.due("no strips", bare.sure(0, 8), -5);
        Check.row(bare, 0, 0, 1);
        check.due("not as many as strips", bare.stubble(0, 1), -7);
    }

    private static void told(RopeMoon x, int m, int ways, int sure, long... crops) {
        for (int sort = 0; sort < 4; sort++) {
            Check.row(x, sort, sort, crops);
            check.due("stubble", x.stubble(sort, m), ways);
            check.due("sure", x.sure(sort, m), sure);
        }
    }

    private static void stubble() {
        RopeMoon x = Check.told(SPOT);
        told(x, 1, 1, 2, 9, 8, 9);
        told(x, 1, 1, 1, 8, 9, 9);
        told(x, 1, 0, 0, 9, 9, 9);
        told(x, 2, 2, 3, 8, 8, 9);
        // Below twice and once in the middle, in any order.
        told(x, 3, 3, 3, 7, 8, 9);
        told(x, 3, 2, 7, 8, 8, 8);
        told(x, 4, 6, 7, 8, 7, 8);
        told(x, 5, 0, 0, 8, 6, 8);
        told(x, 1, 0, 0, 9, 8, -9);
        RopeMoon bare = Check.told("strip 0;strip 0;strip 0;lamp at 1;");
        told(bare, 1, 3, 0, 0, 0, 0);
        told(bare, 8, 1393, 0, 0, 0, 0);
        check.due("as it was", x.count(1), 0);
    }

    private static void meetingRefusals() {
        RopeMoon x = Check.told(SPOT);
        check.due("row", x.meets(4, 0), -2);
        check.due("row", x.meets(0, -1), -2);
        check.due("row", x.delay(0, 4), -2);
        check.due("missing", x.meets(0, 1), -6);
        Check.row(x, 0, 0, 2, 2);
        check.due("missing", x.meets(0, 1), -6);
        check.due("missing", x.delay(1, 0), -6);
        Check.row(x, 1, 0, 0);
        check.due("leads to no strip, behind the meeting", x.meets(0, 1), -5);
        check.due("leads to no strip", x.delay(0, 1), -5);
        Check.row(x, 0, 0, 0, 3);
        check.due("no move", x.meets(0, 1), -5);
        check.due("no move", x.delay(0, 1), -5);
        RopeMoon bare = new RopeMoon();
        Check.row(bare, 0, 0);
        Check.row(bare, 1, 0, 0);
        check.due("no moves", bare.meets(0, 1), -1);
        check.due("no moves", bare.delay(0, 1), 0);
        check.due("no strips", bare.meets(1, 0), -5);
    }

    private static void meetings() {
        RopeMoon x = Check.told(SPOT);
        Check.row(x, 0, 0, 2, 0, 1, 2, 0, 1, 1);
        Check.row(x, 1, 1, 1, 1, 0, 1, 0, 0, 0);
        check.due("in the fifth minute, oil aside", x.meets(0, 1), 4);
        Check.row(x, 1, 3, 4294967296L, 0);
        check.due("in the second", x.meets(0, 1), 1);
        Check.row(x, 1, 0, 0);
        check.due("in the first", x.meets(0, 1), 0);
        Check.row(x, 1, 0);
        check.due("behind the row it is far", x.meets(0, 1), -1);
        Check.row(x, 2, 0, 0, 2, 0, 0);
        check.due("one row for both", x.meets(2, 2), 2);
        check.due("as it was", x.count(1), 0);
    }

    private static void delays() {
        RopeMoon x = Check.told(SPOT);
        Check.row(x, 0, 0, 2, 1);
        Check.row(x, 1, 0, 1, 0, 0, 0);
        check.due("at once", x.delay(0, 1), 0);
        Check.row(x, 1, 0, 0, 0, 1);
        check.due("two", x.delay(0, 1), 2);
        x.numbers(1, 0, 40);
        check.due("all forty", x.delay(0, 1), 40);
        x.minute(2);
        Check.row(x, 0, 0, 1);
        check.due("it goes away at once", x.delay(0, 1), 0);
        Check.row(x, 0, 0, 0);
        check.due("it stays where the other is", x.delay(0, 1), -1);
        Check.row(x, 1, 0, 1, 0);
        check.due("it goes on staying", x.delay(0, 1), 0);
        Check.row(x, 0, 0, 0, 0);
        check.due("no waiting helps", x.delay(0, 1), -1);
    }
}
