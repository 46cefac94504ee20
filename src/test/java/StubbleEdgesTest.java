/** The edges that the document names for STUBBLE and THE OTHER lamp, promises 32 to 35, a sentence a method. */
public final class StubbleEdgesTest {
    private static final Check check = new Check("StubbleEdgesTest");
    private static final String SPOT = "strip 9 reapers 1;strip 9 reapers 1;strip 9 reapers 1;lamp at 1 power 1;cross 2;";

    public static void main(String[] args) {
        refusedRows();
        refusedLengths();
        refusedMinutes();
        refusedWithoutStrips();
        oneStrip();
        sixteenStrips();
        oilAndMinuteCount();
        whereItBeganDoesNotCount();
        nothingExplains();
        eachAskedAlone();
        exactNumbers();
        refusedMeetings();
        noMovesAndNoStrips();
        firstAndLastMinute();
        behindTheRowItIsFar();
        zeroAloneIsThere();
        oilAndMinuteAside();
        delayNone();
        delayToForty();
        staysWhereTheyMeet();
        askingChangesNothing();
        check.finish();
    }

    private static void both(String what, Edge.Setup setup, int code, int row, int m) {
        Edge.refused(check, "stubble: " + what, setup, code, x -> x.stubble(row, m));
        Edge.refused(check, "sure: " + what, setup, code, x -> x.sure(row, m));
    }

    private static void refusedRows() {
        for (int row : Edge.NO_ROW) {
            both("row " + row, Edge::busy, -2, row, 1);
            both("row " + row + " ahead of m", Edge::bare, -2, row, 0);
        }
        both("missing", Edge::busy, -6, 3, 1);
        both("missing ahead of m", Edge::busy, -6, 3, 9);
        both("missing ahead of no strips", Edge::bare, -6, 0, 1);
    }

    private static void refusedLengths() {
        for (int n : new int[] {0, 3, 5, 16, 40}) {
            both(n + " numbers for four strips", Edge.withRow(Edge::busy, n), -7, 0, 1);
            both(n + " numbers, ahead of m", Edge.withRow(Edge::busy, n), -7, 0, 0);
        }
        for (int n : new int[] {1, 40}) {
            both(n + " numbers without strips", Edge.withRow(Edge::bare, n), -7, 0, 1);
            both(n + " numbers without strips, ahead of m", Edge.withRow(Edge::bare, n), -7, 0, 9);
        }
    }

    private static void refusedMinutes() {
        for (int m : new int[] {0, 9, -1, Integer.MIN_VALUE, Integer.MAX_VALUE}) {
            both(m + " minutes", Edge::busy, -3, 2, m);
            both(m + " minutes without strips", Edge.withRow(Edge::bare, 0), -3, 0, m);
        }
    }

    private static void refusedWithoutStrips() {
        for (int m : new int[] {1, 8}) {
            both("no strips", Edge.withRow(Edge::bare, 0), -5, 0, m);
        }
    }

    private static void explained(RopeMoon x, int m, int ways, int sure, long... crops) {
        Check.row(x, 0, 1, crops);
        check.due("stubble of " + m, x.stubble(0, m), ways);
        check.due("sure of " + m, x.sure(0, m), sure);
    }

    private static void oneStrip() {
        RopeMoon x = Check.told("strip 99 reapers 9;lamp power 20;");
        for (int m = 1; m <= 8; m++) {
            explained(x, m, 1, 1, 99 - 9 * m);
            explained(x, m, 0, 0, 99 - 9 * m + 1);
            explained(x, m, 0, 0, 99 - 9 * m - 1);
        }
    }

    private static void sixteenStrips() {
        String none = "strip 0;".repeat(16);
        // Of all rows of eight moves only the one that always goes up leaves the plain, or down.
        explained(Check.told(none + "lamp at 8;"), 8, 6560, 0, new long[16]);
        explained(Check.told(none + "lamp at 7;"), 8, 6560, 0, new long[16]);
        explained(Check.told(none + "lamp at 8;"), 7, 2187, 0, new long[16]);
        explained(Check.told(none + "lamp at 0;"), 1, 2, 0, new long[16]);
        explained(Check.told(none + "lamp at 15;"), 2, 5, 0, new long[16]);
        RopeMoon x = Check.told("strip 9 reapers 1;".repeat(16) + "lamp at 15 power 1;");
        long[] crops = new long[16];
        java.util.Arrays.fill(crops, 9);
        for (int s = 7; s < 15; s++) {
            crops[s] = 8;
        }
        explained(x, 8, 1, 0x7F80, crops);
        crops[15] = 0;
        explained(x, 8, 0, 0, crops);
    }

    private static void oilAndMinuteCount() {
        for (int oil : new int[] {0, 1, 7, 8}) {
            RopeMoon x = Check.told("strip 0;oil " + oil + ";");
            for (int m = 1; m <= 8; m++) {
                explained(x, m, m <= oil ? 1 : 0, m <= oil ? 1 : 0, 0);
            }
        }
        RopeMoon x = Edge.late(9997, 50);
        explained(x, 1, 1, 1, 97);
        explained(x, 2, 1, 1, 95);
        explained(x, 3, 0, 0, 93);
        explained(x, 3, 0, 0, 95);
    }

    private static void whereItBeganDoesNotCount() {
        explained(Check.told(SPOT), 1, 1, 1, 8, 9, 9);
        explained(Check.told(SPOT), 1, 1, 2, 9, 8, 9);
        explained(Check.told(SPOT), 1, 1, 4, 9, 9, 8);
        explained(Check.told(SPOT), 2, 1, 4, 9, 9, 7);
        explained(Check.told(SPOT), 2, 2, 3, 8, 8, 9);
        // Two rows, below or above, and no strip in both.
        explained(Check.told("strip 0;strip 9 reapers 1;strip 0;lamp at 1 power 1;"), 1, 2, 0, 0, 9, 0);
        explained(Check.told("strip 0;strip 9 reapers 1;strip 0;lamp at 1 power 1;"), 2, 4, 2, 0, 8, 0);
    }

    private static void nothingExplains() {
        explained(Check.told(SPOT), 1, 0, 0, 9, 9, 9);
        explained(Check.told(SPOT), 8, 0, 0, 9, 9, 9);
        explained(Check.told(SPOT), 1, 0, 0, 10, 8, 9);
        explained(Check.told(SPOT), 2, 0, 0, 8, 9, 8);
        explained(Check.told(SPOT), 1, 0, 0, 9, -8, 9);
    }

    private static void eachAskedAlone() {
        RopeMoon x = Check.told(SPOT);
        Check.row(x, 0, 0, 8, 9, 9);
        Check.row(x, 1, 0, 9, 9, 7);
        check.due("sure ahead of stubble", x.sure(0, 1), 1);
        check.due("sure of another row", x.sure(1, 2), 4);
        check.due("sure of another m", x.sure(1, 1), 0);
        check.due("sure of another row", x.sure(0, 1), 1);
        check.due("stubble", x.stubble(1, 2), 1);
        check.due("stubble of another m", x.stubble(1, 1), 0);
        check.due("stubble of another row", x.stubble(0, 1), 1);
    }

    private static void exactNumbers() {
        RopeMoon x = Check.told("strip 99 reapers 1;");
        long[] odd = {98 + 256, 98 + 65536, 98 + (1L << 32), 98 - 256};
        for (int sort = 0; sort < 4; sort++) {
            for (int i = 0; i < odd.length; i++) {
                Check.row(x, sort, sort, odd[i]);
                boolean same = (i == 0 || i == 3) && sort == 0 || i == 1 && sort <= 1 || i == 2 && sort <= 2;
                check.due("cut to sort " + sort, x.stubble(sort, 1), same ? 1 : 0);
            }
        }
    }

    private static Edge.Setup withMoves(Edge.Setup setup, long... moves) {
        return () -> {
            RopeMoon x = setup.make();
            Check.row(x, 0, 3, moves);
            Check.row(x, 1, 0, 1, 0);
            return x;
        };
    }

    private static void bothMeetings(String what, Edge.Setup setup, int code, int moves, int others) {
        Edge.refused(check, "meets: " + what, setup, code, x -> x.meets(moves, others));
        Edge.refused(check, "delay: " + what, setup, code, x -> x.delay(moves, others));
    }

    private static void refusedMeetings() {
        for (int row : Edge.NO_ROW) {
            bothMeetings("moves " + row, Edge::busy, -2, row, 0);
            bothMeetings("others " + row, Edge::busy, -2, 1, row);
            bothMeetings("others " + row + " ahead of missing moves", Edge::busy, -2, 3, row);
            bothMeetings("moves " + row + " ahead of missing others", Edge::busy, -2, row, 3);
            bothMeetings("others " + row + " ahead of what is no MOVE", Edge::busy, -2, 0, row);
        }
        bothMeetings("missing moves", Edge::busy, -6, 3, 1);
        bothMeetings("missing others", Edge::busy, -6, 1, 3);
        bothMeetings("missing others ahead of what is no MOVE", Edge::busy, -6, 0, 3);
        bothMeetings("both missing", Edge::bare, -6, 0, 0);
        bothMeetings("no MOVE", withMoves(Edge::busy, 3), -5, 0, 1);
        bothMeetings("no MOVE", withMoves(Edge::busy, 0, -1), -5, 0, 1);
        bothMeetings("no MOVE", withMoves(Edge::busy, 0, 0, 0, 1L << 32), -5, 0, 1);
        bothMeetings("below the first", withMoves(Edge::busy, 1, 1, 1), -5, 0, 1);
        bothMeetings("above the last", withMoves(Edge::busy, 2, 2), -5, 0, 1);
        bothMeetings("no strips", withMoves(Edge::bare, 0), -5, 0, 1);
    }

    private static void noMovesAndNoStrips() {
        RopeMoon x = Check.told(SPOT);
        x.minute(2);
        x.numbers(0, 0, 0);
        x.numbers(1, 0, 40);
        check.due("no moves", x.meets(0, 1), -1);
        check.due("no moves", x.delay(0, 1), 0);
        RopeMoon bare = new RopeMoon();
        bare.numbers(0, 0, 0);
        bare.numbers(1, 0, 40);
        check.due("no moves, no strips", bare.meets(0, 1), -1);
        check.due("no moves, no strips", bare.delay(0, 1), 0);
        check.due("one row for both", bare.meets(0, 0), -1);
    }

    private static void firstAndLastMinute() {
        RopeMoon x = Check.told(SPOT);
        x.numbers(0, 0, 40);
        x.numbers(1, 0, 40);
        check.due("it does not go there", x.meets(0, 1), -1);
        for (int minute = 0; minute < 40; minute++) {
            x.numbers(0, 0, 40);
            x.write(0, minute, 2);
            check.due("it goes there in minute " + minute, x.meets(0, 1), minute);
        }
        x = Check.told(SPOT + "lamp at 2 power 1;");
        x.numbers(0, 0, 40);
        check.due("staying there, and the other is there", x.meets(0, 0), 0);
        x.write(0, 0, 1);
        check.due("it goes away behind its first MOVE", x.meets(0, 0), -1);
    }

    private static void behindTheRowItIsFar() {
        RopeMoon x = Check.told(SPOT);
        Check.row(x, 0, 0, 0, 0, 2);
        Check.row(x, 1, 0, 0, 0);
        check.due("a minute behind the row", x.meets(0, 1), -1);
        Check.row(x, 1, 0, 0, 0, 0);
        check.due("the last minute of the row", x.meets(0, 1), 2);
        Check.row(x, 1, 0, 0, 0, 1, 0, 0);
        check.due("a minute behind the moves", x.meets(0, 1), -1);
        Check.row(x, 1, 0);
        check.due("an empty row", x.meets(0, 1), -1);
        check.due("an empty row", x.delay(0, 1), 0);
    }

    private static void zeroAloneIsThere() {
        RopeMoon x = Check.told(SPOT);
        Check.row(x, 0, 0, 2, 0, 0, 0, 0);
        long[] far = {-1, 1, 127, -128};
        Check.row(x, 1, 0, far);
        check.due("none is there", x.meets(0, 1), -1);
        Check.row(x, 1, 1, 256, 256, 0);
        check.due("256 is far", x.meets(0, 1), 2);
        Check.row(x, 1, 0, 1, 256);
        check.due("cut to 8 bits it is there", x.meets(0, 1), 1);
        Check.row(x, 1, 3, 1L << 32, 1L << 63, 0);
        check.due("of 64 bits it is far", x.meets(0, 1), 2);
    }

    private static void oilAndMinuteAside() {
        RopeMoon x = Edge.late(9999, 0);
        x.numbers(0, 0, 40);
        Check.row(x, 1, 0, 1, 1, 0);
        check.due("without oil, in the last minute", x.meets(0, 1), 2);
        check.due("no waiting helps", x.delay(0, 1), -1);
        Check.row(x, 1, 0, 1, 1, 1);
        check.due("none", x.delay(0, 1), 0);
    }

    private static void delayNone() {
        RopeMoon x = Check.told(SPOT + "lamp at 2 power 1;");
        x.numbers(1, 0, 40);
        Check.row(x, 0, 0, 0);
        check.due("it stays where the other is", x.delay(0, 1), -1);
        Check.row(x, 0, 0, 1, 2);
        check.due("it comes back", x.delay(0, 1), -1);
        Check.row(x, 0, 0, 1);
        check.due("at once away", x.delay(0, 1), 0);
    }

    private static void delayToForty() {
        RopeMoon x = Check.told(SPOT);
        Check.row(x, 0, 0, 2);
        for (int free = 0; free <= 40; free++) {
            x.numbers(1, 0, 40);
            if (free < 40) {
                x.write(1, free, 1);
            }
            check.due("free in minute " + free, x.delay(0, 1), free);
        }
        x.numbers(1, 0, 40);
        Check.row(x, 0, 0, 2, 0);
        x.write(1, 38, 5);
        check.due("two minutes there: not with one that is free", x.delay(0, 1), 40);
        x.write(1, 39, 5);
        check.due("two that are free", x.delay(0, 1), 38);
        x.numbers(0, 0, 40);
        x.write(0, 39, 2);
        x.numbers(1, 0, 40);
        check.due("just behind the row", x.delay(0, 1), 1);
    }

    private static void staysWhereTheyMeet() {
        RopeMoon x = Check.told(SPOT + "lamp at 2 power 1;");
        Check.row(x, 0, 0, 1, 2);
        Check.row(x, 1, 0, 1, 0);
        check.due("away while the other is there", x.delay(0, 1), 1);
        Check.row(x, 1, 0, 0, 1);
        check.due("away when the other comes", x.delay(0, 1), 0);
        Check.row(x, 1, 0, 1, 1, 0);
        check.due("back ahead of the other", x.delay(0, 1), 0);
        Check.row(x, 1, 0, 1, 0, 0, 1);
        check.due("the other is there for two minutes", x.delay(0, 1), -1);
        Check.row(x, 0, 0, 1, 0, 2);
        check.due("away for both of these", x.delay(0, 1), 1);
        Check.row(x, 1, 0, 1, 1, 0, 0, 1);
        check.due("they come a minute later", x.delay(0, 1), 2);
        Check.row(x, 1, 0, 1, 1, 0, 0, 0, 1);
        check.due("three of them", x.delay(0, 1), -1);
    }

    private static void askingChangesNothing() {
        RopeMoon x = Edge.busy();
        for (int row = 0; row < 3; row++) {
            for (int m = 1; m <= 8; m++) {
                x.stubble(row, m);
                x.sure(row, m);
            }
            for (int others = 0; others < 3; others++) {
                x.meets(row, others);
                x.delay(row, others);
            }
        }
        Edge.alike(check, "asking", Probe.everythingOf(x), Probe.everythingOf(Edge.busy()));
    }
}
