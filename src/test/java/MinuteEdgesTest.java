/** The edges that the document names for MINUTES and promises 14 to 19, a sentence a method. */
public final class MinuteEdgesTest {
    private static final Check check = new Check("MinuteEdgesTest");
    private static final int[] NO_MOVE = {-1, 3, 4, 258, Integer.MIN_VALUE, Integer.MAX_VALUE};

    public static void main(String[] args) {
        theLeastOfThree();
        goesThenReaps();
        endsOfTheRope();
        noMove();
        noOil();
        lastMinute();
        whyTheLeast();
        judgeRefusals();
        judgeEmptyAndLongest();
        judgeTillOneCannotBe();
        judgeChangesNothing();
        judgeNearTheLastMinute();
        performs();
        performRefusals();
        fillBounds();
        nightBounds();
        nightTillNoOil();
        nightRefusals();
        nightNearTheLastMinute();
        nightDraws();
        moths();
        walkBounds();
        walkRefusals();
        walkToTheSame();
        check.finish();
    }

    private static void theLeastOfThree() {
        // Crop, reapers, power: the least of them is reaped.
        int[][] cases = {{3, 5, 7, 3}, {5, 3, 7, 3}, {7, 5, 3, 3}, {0, 9, 9, 0}, {9, 0, 9, 0}, {9, 9, 0, 0}, {99, 9, 20, 9},
            {1, 1, 1, 1}, {8, 8, 8, 8}};
        for (int[] c : cases) {
            RopeMoon x = Check.told("strip " + c[0] + " reapers " + c[1] + ";lamp power " + c[2] + ";");
            check.due("reaped", x.minute(0), c[3]);
            check.due("CROP", x.strip(0, 0), c[0] - c[3]);
            check.due("reaped there", x.strip(0, 4), c[3]);
            check.due("reaped in all", x.count(10), c[3]);
            check.due("standing in all", x.count(9), c[0] - c[3]);
        }
    }

    private static void goesThenReaps() {
        RopeMoon x = Check.told("strip 9;strip 9;strip 9;lamp at 1 power 2 fade 9;oil 3;");
        check.due("below", x.minute(1), 2);
        check.due("over strip 0", x.count(2), 0);
        check.due("CROP", x.strip(0, 0), 7);
        check.due("where it hung", x.strip(1, 0), 9);
        check.due("oil", x.count(6), 2);
        check.due("MINUTE", x.count(1), 1);
        check.due("above", x.minute(2), 2);
        check.due("over strip 1", x.count(2), 1);
        check.due("it stays", x.minute(0), 2);
        check.due("CROP", x.strip(1, 0), 5);
        check.due("the last oil", x.count(6), 0);
    }

    private static void endsOfTheRope() {
        Edge.Setup first = () -> Check.told("strip 9;strip 9;");
        Edge.refused(check, "below the first", first, -2, x -> x.minute(1));
        Edge.Setup last = () -> Check.told("strip 9;strip 9;lamp at 1;");
        Edge.refused(check, "above the last", last, -2, x -> x.minute(2));
        Edge.Setup one = () -> Check.told("strip 9;");
        Edge.refused(check, "below the only one", one, -2, x -> x.minute(1));
        Edge.refused(check, "above the only one", one, -2, x -> x.minute(2));
        check.due("it can stay", one.make().minute(0), 2);
        RopeMoon x = Check.told("strip 9;".repeat(16) + "lamp at 14;");
        check.due("to the sixteenth", x.minute(2), 11);
        check.due("beyond", x.minute(2), -2);
    }

    private static void noMove() {
        for (int move : NO_MOVE) {
            Edge.refused(check, "minute(" + move + ")", Edge::busy, -2, x -> x.minute(move));
            Edge.refused(check, "minute(" + move + ") without strips", Edge::bare, -2, x -> x.minute(move));
            Edge.refused(check, "minute(" + move + ") without oil", Edge::dry, -2, x -> x.minute(move));
        }
        for (int move = 0; move <= 2; move++) {
            int made = move;
            Edge.refused(check, "minute(" + move + ") without strips", Edge::bare, -2, x -> x.minute(made));
        }
    }

    private static void noOil() {
        for (int move = 0; move <= 2; move++) {
            int made = move;
            Edge.refused(check, "minute(" + move + ") without oil", Edge::dry, -5, x -> x.minute(made));
        }
        Edge.Setup end = () -> Check.told("strip 9;strip 9;oil 0;");
        Edge.refused(check, "no STRIP is told ahead of no oil", end, -2, x -> x.minute(1));
        RopeMoon x = Edge.dry();
        x.fill(1);
        check.due("the last oil", x.minute(0), 6);
        check.due("no oil", x.minute(0), -5);
    }

    private static void lastMinute() {
        RopeMoon x = Edge.late(9998, 2);
        check.due("MINUTE", x.count(1), 9998);
        check.due("oil", x.count(6), 2);
        check.due("the last one", x.minute(0), 2);
        check.due("MINUTE", x.count(1), 9999);
        for (int i = 0; i < 2; i++) {
            check.due("none more", x.minute(0), -5);
            check.due("no such MOVE", x.minute(3), -2);
            check.due("no such STRIP", x.minute(2), -2);
            check.due("MINUTE", x.count(1), 9999);
            check.due("oil", x.count(6), 1);
            check.due("standing", x.count(9), 97);
        }
        check.due("a new plain", x.plain(0), 0);
        check.due("MINUTE", x.count(1), 0);
    }

    private static void why(RopeMoon x, long move, int why) {
        Check.row(x, 0, 3, move);
        check.due("why not " + move, x.judge(0, 1), why);
        check.due("where", x.judge(0, 0), why == 0 ? -1 : 0);
    }

    private static void whyTheLeast() {
        RopeMoon x = Edge.late(9999, 0);
        check.due("oil", x.count(6), 0);
        check.due("MINUTE", x.count(1), 9999);
        why(x, 3, 1);
        why(x, 1, 1);
        why(x, 2, 1);
        why(x, 0, 2);
        x.fill(1);
        why(x, 0, 3);
        why(x, 1, 1);
        why(x, -1, 1);
        why(Edge.bare(), 0, 1);
        RopeMoon dry = Check.told("strip 1;strip 1;oil 0;");
        why(dry, 2, 2);
        why(dry, 1, 1);
        why(dry, 1L << 32, 1);
        why(dry, Long.MIN_VALUE, 1);
        dry.fill(1);
        why(dry, 2, 0);
        why(dry, 0, 0);
    }

    private static void judgeRefusals() {
        for (int row : Edge.NO_ROW) {
            Edge.refused(check, "judge(" + row + ", 0)", Edge::busy, -2, x -> x.judge(row, 0));
            Edge.refused(check, "judge(" + row + ", 4)", Edge::busy, -2, x -> x.judge(row, 4));
        }
        for (int what : new int[] {-1, 4, Integer.MIN_VALUE, Integer.MAX_VALUE}) {
            Edge.refused(check, "judge(0, " + what + ")", Edge::busy, -2, x -> x.judge(0, what));
            Edge.refused(check, "judge(3, " + what + ") of a missing one", Edge::busy, -2, x -> x.judge(3, what));
        }
        for (int what = 0; what <= 3; what++) {
            int asked = what;
            Edge.refused(check, "judge(3, " + what + ") of a missing one", Edge::busy, -6, x -> x.judge(3, asked));
        }
    }

    private static void judged(String of, RopeMoon x, int row, int... due) {
        for (int what = 0; what < due.length; what++) {
            check.due(of + ": judge " + what, x.judge(row, what), due[what]);
        }
    }

    private static void judgeEmptyAndLongest() {
        RopeMoon x = Edge.busy();
        x.numbers(3, 0, 0);
        judged("no moves", x, 3, -1, 0, 0, 2);
        RopeMoon bare = new RopeMoon();
        bare.numbers(0, 0, 0);
        judged("no moves, no strips", bare, 0, -1, 0, 0, -1);
        bare.numbers(0, 0, 40);
        judged("no strips", bare, 0, 0, 1, 0, -1);
        RopeMoon forty = Check.told("strip 99 reapers 1;oil 40;");
        forty.numbers(2, 3, 40);
        judged("forty minutes", forty, 2, -1, 0, 40, 0);
        RopeMoon fewer = Check.told("strip 99 reapers 1;oil 39;");
        fewer.numbers(2, 3, 40);
        judged("oil for 39", fewer, 2, 39, 2, 39, 0);
    }

    private static void judgeTillOneCannotBe() {
        RopeMoon x = Check.told("strip 99 reapers 1;strip 99 reapers 1;lamp at 1 power 1;oil 4;");
        Check.row(x, 0, 0, 1, 1, 2, 0);
        judged("below the first", x, 0, 1, 1, 1, 0);
        Check.row(x, 0, 0, 1, 2, 2, 0);
        judged("above the last", x, 0, 2, 1, 2, 1);
        Check.row(x, 0, 0, 0, 0, 7, 0);
        judged("no MOVE", x, 0, 2, 1, 2, 1);
        Check.row(x, 0, 0, 0, 0, 0, 0, 0);
        judged("no oil", x, 0, 4, 2, 4, 1);
        Check.row(x, 0, 0, 0, 0, 0, 0, 2);
        judged("no STRIP is told ahead of no oil", x, 0, 4, 1, 4, 1);
        Check.row(x, 0, 0, 0, 0, 0, 1);
        judged("all can be", x, 0, -1, 0, 4, 0);
        // Cut to 8 bits, 256 + 1 is a MOVE.
        Check.row(x, 0, 0, 257);
        judged("as it is there", x, 0, -1, 0, 1, 0);
        Check.row(x, 0, 1, 257);
        judged("as it is there", x, 0, 0, 1, 0, 1);
    }

    private static void judgeChangesNothing() {
        RopeMoon x = Edge.busy();
        for (int row = 0; row < 3; row++) {
            for (int what = 0; what <= 3; what++) {
                x.judge(row, what);
            }
        }
        Edge.alike(check, "judging", Probe.everythingOf(x), Probe.everythingOf(Edge.busy()));
    }

    private static void judgeNearTheLastMinute() {
        RopeMoon x = Edge.late(9997, 3);
        x.numbers(0, 0, 3);
        judged("two more", x, 0, 2, 3, 4, 0);
        check.due("two are made", x.perform(0), 2);
        check.due("MINUTE", x.count(1), 9999);
        check.due("oil", x.count(6), 1);
        judged("none more", x, 0, 0, 3, 0, 0);
        check.due("none is made", x.perform(0), 0);
        check.due("MINUTE", x.count(1), 9999);
        check.due("oil", x.count(6), 1);
    }

    private static void performs() {
        RopeMoon x = Check.told("strip 99 reapers 1;strip 99 reapers 1;lamp at 1 power 1;oil 50;");
        Check.row(x, 0, 0, 1, 1, 2, 0);
        check.due("till one can't be", x.perform(0), 1);
        check.due("over strip 0", x.count(2), 0);
        check.due("oil", x.count(6), 49);
        check.due("MINUTE", x.count(1), 1);
        check.due("reaped", x.count(10), 1);
        check.due("not one", x.perform(0), 0);
        check.due("MINUTE", x.count(1), 1);
        x.numbers(0, 1, 40);
        check.due("all forty", x.perform(0), 40);
        check.due("oil", x.count(6), 9);
        check.due("till there is no oil", x.perform(0), 9);
        check.due("oil", x.count(6), 0);
        check.due("none", x.perform(0), 0);
        x.numbers(0, 1, 0);
        check.due("no moves", x.perform(0), 0);
        RopeMoon bare = new RopeMoon();
        bare.numbers(0, 0, 1);
        check.due("no strips", bare.perform(0), 0);
        check.due("oil", bare.count(6), 60);
        check.due("MINUTE", bare.count(1), 0);
    }

    private static void performRefusals() {
        for (int row : Edge.NO_ROW) {
            Edge.refused(check, "perform(" + row + ")", Edge::busy, -2, x -> x.perform(row));
        }
        Edge.refused(check, "perform(3)", Edge::busy, -6, x -> x.perform(3));
    }

    private static void fillBounds() {
        for (int n : new int[] {-1, 100, 999, Integer.MIN_VALUE, Integer.MAX_VALUE}) {
            Edge.refused(check, "fill(" + n + ")", Edge::busy, -3, x -> x.fill(n));
            Edge.refused(check, "fill(" + n + ") without strips", Edge::bare, -3, x -> x.fill(n));
        }
        RopeMoon x = Check.told("oil 900;");
        check.due("fill(0)", x.fill(0), 900);
        check.due("fill(98)", x.fill(98), 998);
        check.due("fill(1)", x.fill(1), 999);
        check.due("fill(1), 999 at most", x.fill(1), 999);
        check.due("fill(99), 999 at most", x.fill(99), 999);
        check.due("fill(100) of a full one", x.fill(100), -3);
        x = Check.told("oil 900;");
        check.due("fill(99)", x.fill(99), 999);
        x = Check.told("oil 901;");
        check.due("fill(99), 999 at most", x.fill(99), 999);
        check.due("oil", x.count(6), 999);
        check.due("from nothing", Edge.dry().fill(99), 99);
    }

    private static void nightBounds() {
        RopeMoon x = Check.told("strip 99 reapers 1;oil 200;");
        check.due("one minute", x.night(0, 1), 1);
        check.due("MINUTE", x.count(1), 1);
        check.due("sixty", x.night(0, 60), 60);
        check.due("MINUTE", x.count(1), 61);
        check.due("oil", x.count(6), 139);
        check.due("the rest", x.night(0, 60), 38);
        check.due("nothing is left", x.night(0, 18), 0);
        check.due("oil", x.count(6), 61);
    }

    private static void nightTillNoOil() {
        for (int oil : new int[] {1, 59, 60}) {
            RopeMoon x = Check.told("strip 99 reapers 1;oil " + oil + ";");
            check.due("till there is no oil", x.night(3, 60), oil);
            check.due("oil", x.count(6), 0);
            check.due("MINUTE", x.count(1), oil);
            check.due("no oil", x.night(3, 1), -5);
        }
        RopeMoon x = Check.told("strip 99 reapers 1;oil 61;");
        check.due("sixty", x.night(3, 60), 60);
        check.due("oil", x.count(6), 1);
    }

    private static void nightRefusals() {
        for (int minutes : new int[] {0, 61, -1, Integer.MIN_VALUE, Integer.MAX_VALUE}) {
            Edge.refused(check, "night of " + minutes, Edge::busy, -3, x -> x.night(1, minutes));
            Edge.refused(check, "night of " + minutes + " without strips", Edge::bare, -3, x -> x.night(1, minutes));
            Edge.refused(check, "night of " + minutes + " without oil", Edge::dry, -3, x -> x.night(1, minutes));
        }
        for (int minutes : new int[] {1, 60}) {
            Edge.refused(check, "night without strips", Edge::bare, -5, x -> x.night(1, minutes));
            Edge.refused(check, "night without oil", Edge::dry, -5, x -> x.night(1, minutes));
        }
    }

    private static void nightNearTheLastMinute() {
        RopeMoon x = Edge.late(9990, 60);
        check.due("MINUTE would be 10000", x.night(1, 10), -5);
        check.due("MINUTE", x.count(1), 9990);
        check.due("oil", x.count(6), 60);
        check.due("MINUTE would be above", x.night(1, 60), -5);
        check.due("how many is told first", x.night(1, 61), -3);
        check.due("it becomes 9999", x.night(1, 9), 0);
        check.due("MINUTE", x.count(1), 9999);
        check.due("MINUTE would be 10000", x.night(1, 1), -5);
        check.due("oil", x.count(6), 51);
    }

    /** By seed 1 the DRAWS are 16838, 38526, 10113, 50283, by -1: 48697, 4409, 9862, 59486. */
    private static void nightDraws() {
        RopeMoon x = Check.told("strip 9;strip 9;strip 9;lamp at 1;");
        check.due("16838 modulo 3 is 2", x.night(1, 1), 6);
        check.due("above", x.count(2), 2);
        x = Check.told("strip 9;strip 9;strip 9;lamp at 2;");
        x.night(1, 1);
        check.due("it can't be: it stays", x.count(2), 2);
        x = Check.told("strip 9;strip 9;strip 9;lamp at 1;");
        x.night(-1, 1);
        check.due("48697 modulo 3 is 1: below", x.count(2), 0);
        x.night(-1, 1);
        check.due("it can't be: it stays", x.count(2), 0);
        x = Check.told("strip 9;strip 9;strip 9;lamp at 1;");
        x.night(0, 1);
        check.due("0 modulo 3 is 0", x.count(2), 1);
        // The moves of seed 1: 2, 0, 0, 2.
        int[] places = {1, 1, 1, 2};
        for (int minutes = 1; minutes <= 4; minutes++) {
            RopeMoon y = Check.told("strip 9;strip 9;strip 9;strip 9;lamp at 0;");
            y.night(1, minutes);
            check.due("behind " + minutes, y.count(2), places[minutes - 1]);
        }
        check.due("one strip", Check.told("strip 9;").night(1, 4), 8);
    }

    private static void moths() {
        // The second DRAW by seed 1 modulo 100 is 26, the fourth 83, the sixth 95, the eighth 87.
        check.due("26 is not below 26", mothNight(26, 1, 1), 2);
        check.due("26 is below 27", mothNight(27, 1, 1), 0);
        check.due("83 is not below 83", mothNight(83, 1, 2), 2);
        check.due("83 is below 84", mothNight(84, 1, 2), 0);
        check.due("95 is not below 95", mothNight(95, 1, 4), 2);
        check.due("95 is below 96", mothNight(96, 1, 4), 0);
        check.due("none", mothNight(0, 1, 30), 60);
        check.due("no night without", mothNight(100, 1, 60), 0);
        // By seed -1 the sixth of them, 60994, comes from an x below 0.
        check.due("9 is not below 9", mothNight(9, -1, 1), 2);
        check.due("86 is not below 86", mothNight(86, -1, 2), 2);
        check.due("94 is not below 87", mothNight(87, -1, 3), 2);
        RopeMoon x = Check.told("strip 99;moths 100;oil 9;");
        x.night(5, 4);
        check.due("oil burns by moths too", x.count(6), 5);
        check.due("MINUTE goes on by moths too", x.count(1), 4);
        check.due("moths are of nights alone", x.minute(0), 2);
        x.numbers(0, 0, 2);
        check.due("moths are of nights alone", x.judge(0, 2), 4);
    }

    private static int mothNight(int moths, int seed, int minutes) {
        return Check.told("strip 99;moths " + moths + ";").night(seed, minutes);
    }

    private static RopeMoon reapers() {
        return Check.told("strip 1 reapers 5;strip 1 reapers 6;strip 1 reapers 0;strip 1 reapers 9;");
    }

    private static void walkBounds() {
        RopeMoon x = reapers();
        check.due("nobody", x.walk(2, 3, 0), 0);
        check.due("nobody", x.walk(0, 3, 0), 0);
        check.due("all", x.walk(0, 2, 5), 0);
        check.due("from", x.strip(0, 1), 0);
        check.due("to", x.strip(2, 1), 5);
        check.due("just nine", x.walk(2, 1, 3), 0);
        check.due("from", x.strip(2, 1), 2);
        check.due("to", x.strip(1, 1), 9);
        check.due("all nine", x.walk(3, 0, 9), 0);
        check.due("from", x.strip(3, 1), 0);
        check.due("to", x.strip(0, 1), 9);
        check.due("no minute goes by", x.count(1), 0);
        check.due("no oil burns", x.count(6), 60);
    }

    private static void walkRefusals() {
        for (int no : new int[] {-1, 4, Integer.MIN_VALUE, Integer.MAX_VALUE}) {
            Edge.refused(check, "walk(" + no + ", 0, -1)", MinuteEdgesTest::reapers, -2, x -> x.walk(no, 0, -1));
            Edge.refused(check, "walk(0, " + no + ", 99)", MinuteEdgesTest::reapers, -2, x -> x.walk(0, no, 99));
        }
        for (int n : new int[] {-1, 6, 10, Integer.MIN_VALUE, Integer.MAX_VALUE}) {
            Edge.refused(check, "walk(0, 2, " + n + ")", MinuteEdgesTest::reapers, -3, x -> x.walk(0, 2, n));
            Edge.refused(check, "walk(0, 3, " + n + ") to nine", MinuteEdgesTest::reapers, -3, x -> x.walk(0, 3, n));
        }
        Edge.refused(check, "walk(0, 1, 4)", MinuteEdgesTest::reapers, -4, x -> x.walk(0, 1, 4));
        Edge.refused(check, "walk(0, 3, 1)", MinuteEdgesTest::reapers, -4, x -> x.walk(0, 3, 1));
        Edge.refused(check, "walk(2, 0, 1) from nobody", MinuteEdgesTest::reapers, -3, x -> x.walk(2, 0, 1));
    }

    private static void walkToTheSame() {
        for (int n : new int[] {0, 1, 9}) {
            Edge.refused(check, "walk(3, 3, " + n + ")", MinuteEdgesTest::reapers, 0, x -> x.walk(3, 3, n));
        }
        Edge.refused(check, "walk(3, 3, 10)", MinuteEdgesTest::reapers, -3, x -> x.walk(3, 3, 10));
    }
}
