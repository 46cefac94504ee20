/** The edges that the document names for what is sought, promises 20 to 31, a sentence a method. */
public final class SoughtEdgesTest {
    private static final Check check = new Check("SoughtEdgesTest");
    private static final int[] FAR = {-1, Integer.MIN_VALUE, Integer.MAX_VALUE};
    // Two strips, of which only the one under the lamp is lit, by one.
    private static final String SPOT = "strip 9 reapers 1 farm 1;strip 9 reapers 1 farm 2;lamp power 1;";

    public static void main(String[] args) {
        refusedWhats();
        refusedFarms();
        refusedMinutes();
        refusedWithoutStrips();
        oneToEightMinutes();
        fewerMinutesOfOil();
        fewerMinutesLeft();
        firstByMoves();
        dearestBids();
        dearestFewer();
        fairestFarms();
        fairestThenMost();
        aloneFarms();
        paysEdges();
        shiftedFewerThanNine();
        shiftedFromSomebody();
        shiftedFirst();
        shiftedMinutes();
        felledEdges();
        felledMinutes();
        soonestBounds();
        soonestToEight();
        darkNoneAndAll();
        endsBounds();
        endsFewerMinutes();
        haltsNone();
        haltsFewestThenLeast();
        tours();
        refusedSets();
        seekingChangesNothing();
        nothingIsLeftOfEarlierCalls();
        fullPlain();
        check.finish();
    }

    /** A call of what is sought, by m and what. */
    private interface Sought {
        int ask(RopeMoon x, int m, int what);
    }

    private static void whats(String name, Sought call, int... refused) {
        for (int what : refused) {
            Edge.refused(check, name + " what " + what, Edge::busy, -2, x -> call.ask(x, 1, what));
            for (int m : new int[] {0, 99}) {
                check.due(name + " what ahead of m", call.ask(Edge.busy(), m, what), -2);
                check.due(name + " what ahead of all", call.ask(Edge.bare(), m, what), -2);
            }
        }
        for (int what : FAR) {
            Edge.refused(check, name + " what " + what, Edge::busy, -2, x -> call.ask(x, 1, what));
        }
    }

    private static void refusedWhats() {
        whats("most", RopeMoon::most, 2, 3, 9, 18, 19);
        whats("dearest", RopeMoon::dearest, 1, 2, 9, 18, 19);
        whats("fairest", RopeMoon::fairest, 2, 3, 9, 18, 19);
        whats("alone", (x, m, what) -> x.alone(0, m, what), 1, 2, 9, 18, 19);
        whats("shifted", RopeMoon::shifted, 3, 4, 10, 17);
        whats("felled", RopeMoon::felled, 2, 3, 10, 17);
    }

    private static void refusedFarms() {
        for (int f : new int[] {-1, 6, Integer.MIN_VALUE, Integer.MAX_VALUE}) {
            Edge.refused(check, "alone of farm " + f, Edge::busy, -2, x -> x.alone(f, 1, 0));
            Edge.refused(check, "alone of farm " + f + ", bad m", Edge::busy, -2, x -> x.alone(f, 9, 0));
            Edge.refused(check, "alone of farm " + f + ", bad what", Edge::bare, -2, x -> x.alone(f, 1, 5));
            Edge.refused(check, "pays of farm " + f, Edge::busy, -2, x -> x.pays(f, 1));
            Edge.refused(check, "pays of farm " + f + ", bad m", Edge::bare, -2, x -> x.pays(f, 0));
        }
    }

    private static void minutes(String name, int most, Edge.Setup setup, Sought call, int what) {
        for (int m : new int[] {0, most + 1, -1, Integer.MIN_VALUE, Integer.MAX_VALUE}) {
            Edge.refused(check, name + " of " + m + " minutes", setup, -3, x -> call.ask(x, m, what));
        }
        for (int m : new int[] {1, most}) {
            RopeMoon x = setup.make();
            check.due(name + " of " + m + " minutes", call.ask(x, m, what) >= -1 || x.count(0) == 0 ? 1 : 0, 1);
        }
    }

    private static void refusedMinutes() {
        Edge.Setup[] setups = {Edge::busy, Edge::bare, Edge::dry};
        for (Edge.Setup setup : setups) {
            minutes("most", 8, setup, RopeMoon::most, 0);
            minutes("most", 8, setup, RopeMoon::most, 1);
            minutes("most", 8, setup, RopeMoon::most, 17);
            minutes("dearest", 8, setup, RopeMoon::dearest, 10);
            minutes("fairest", 8, setup, RopeMoon::fairest, 1);
            minutes("alone", 8, setup, (x, m, what) -> x.alone(5, m, what), 0);
            minutes("pays", 8, setup, (x, m, what) -> x.pays(0, m), 0);
            minutes("shifted", 5, setup, RopeMoon::shifted, 2);
            minutes("felled", 6, setup, RopeMoon::felled, 1);
            minutes("ends", 6, setup, (x, m, what) -> x.ends(m), 0);
        }
    }

    private static void refusedWithoutStrips() {
        for (int m = 1; m <= 8; m++) {
            int told = m;
            Edge.refused(check, "most", Edge::bare, -5, x -> x.most(told, 0));
            Edge.refused(check, "most 1", Edge::bare, -5, x -> x.most(told, 1));
            Edge.refused(check, "most 10", Edge::bare, -5, x -> x.most(told, 10));
            Edge.refused(check, "dearest", Edge::bare, -5, x -> x.dearest(told, 0));
            Edge.refused(check, "fairest", Edge::bare, -5, x -> x.fairest(told, 1));
            Edge.refused(check, "alone", Edge::bare, -5, x -> x.alone(5, told, 17));
            Edge.refused(check, "pays", Edge::bare, -5, x -> x.pays(0, told));
            Edge.refused(check, "shifted", Edge::bare, m <= 5 ? -5 : -3, x -> x.shifted(told, 2));
            Edge.refused(check, "felled", Edge::bare, m <= 6 ? -5 : -3, x -> x.felled(told, 1));
            Edge.refused(check, "ends", Edge::bare, m <= 6 ? -5 : -3, x -> x.ends(told));
        }
        for (int sheaves : new int[] {0, 1, 9999}) {
            Edge.refused(check, "soonest", Edge::bare, -5, x -> x.soonest(sheaves));
        }
    }

    /** By one strip each minute brings nine sheaves: how many minutes there are shows in all answers. */
    private static void ninesOf(RopeMoon x, int m, int minutes) {
        check.due("most", x.most(m, 0), 9 * minutes);
        check.due("minutes", x.most(m, 1), minutes);
        check.due("bids", x.dearest(m, 0), 99 * 9 * minutes);
        check.due("fewest", x.fairest(m, 0), 9 * minutes);
        check.due("of all", x.fairest(m, 1), 9 * minutes);
        check.due("alone", x.alone(5, m, 0), 9 * minutes);
        check.due("alone for another", x.alone(4, m, 0), 0);
        for (int k = 0; k < 8; k++) {
            int due = k < minutes ? 0 : -1;
            check.due("most 1" + k, x.most(m, 10 + k), due);
            check.due("dearest 1" + k, x.dearest(m, 10 + k), due);
            check.due("fairest 1" + k, x.fairest(m, 10 + k), due);
            check.due("alone 1" + k, x.alone(5, m, 10 + k), due);
        }
    }

    private static final String NINES = "strip 99 reapers 9 farm 5;bid 5 99;lamp power 20;";

    private static void oneToEightMinutes() {
        for (int m = 1; m <= 8; m++) {
            ninesOf(Check.told(NINES), m, m);
            ninesOf(Check.told(NINES + "oil " + m + ";"), m, m);
        }
    }

    private static void fewerMinutesOfOil() {
        for (int oil = 0; oil <= 8; oil++) {
            for (int m : new int[] {1, 5, 8}) {
                ninesOf(Check.told(NINES + "oil " + oil + ";"), m, Math.min(m, oil));
            }
            RopeMoon x = Check.told(NINES + "oil " + oil + ";");
            check.due("nobody else", x.pays(5, 8), 0);
            check.due("soonest with oil", x.soonest(9 * oil), oil);
            check.due("soonest without", x.soonest(9 * oil + 1), -1);
        }
    }

    private static void fewerMinutesLeft() {
        RopeMoon x = Edge.late(9997, 50);
        check.due("two sheaves a minute", x.most(8, 0), 4);
        check.due("two minutes are left", x.most(8, 1), 2);
        check.due("one of them", x.most(1, 1), 1);
        check.due("the second move", x.most(8, 11), 0);
        check.due("no third", x.most(8, 12), -1);
        check.due("soonest", x.soonest(4), 2);
        check.due("soonest", x.soonest(5), -1);
        x.minute(0);
        x.minute(0);
        check.due("none is left", x.most(8, 0), 0);
        check.due("none is left", x.most(8, 1), 0);
        check.due("no move", x.most(8, 10), -1);
        check.due("soonest of none", x.soonest(0), 0);
        check.due("soonest", x.soonest(1), -1);
    }

    private static void moves(String name, RopeMoon x, Sought call, int m, int... due) {
        for (int k = 0; k < 8; k++) {
            check.due(name + " of " + m + ": move " + k, call.ask(x, m, 10 + k), k < due.length ? due[k] : -1);
        }
    }

    private static void firstByMoves() {
        RopeMoon x = Check.told(SPOT);
        Sought alone1 = (y, m, what) -> y.alone(1, m, what);
        Sought alone2 = (y, m, what) -> y.alone(2, m, what);
        moves("most: staying is first", x, RopeMoon::most, 3, 0, 0, 0);
        moves("dearest: staying is first", x, RopeMoon::dearest, 3, 0, 0, 0);
        moves("fairest: each one", x, RopeMoon::fairest, 2, 0, 2);
        moves("fairest: each one", x, RopeMoon::fairest, 3, 0, 0, 2);
        moves("alone 1", x, alone1, 3, 0, 0, 0);
        moves("alone 2", x, alone2, 3, 2, 0, 0);
        x = Check.told("strip 9 reapers 1;strip 0;strip 9 reapers 1;lamp at 1 power 1;");
        moves("most: below is ahead of above", x, RopeMoon::most, 1, 1);
        moves("most: below is ahead of above", x, RopeMoon::most, 8, 1, 0, 0, 0, 0, 0, 0, 0);
        x = Check.told("strip 0;strip 0;strip 0;lamp at 1;");
        moves("most: of nothing", x, RopeMoon::most, 8, 0, 0, 0, 0, 0, 0, 0, 0);
        moves("fairest: of nothing", x, RopeMoon::fairest, 8, 0, 0, 0, 0, 0, 0, 0, 0);
        x = Check.told("strip 9 reapers 1;strip 1 reapers 1;lamp at 1 power 1;");
        moves("most: the crop of a strip ends", x, RopeMoon::most, 3, 0, 1, 0);
        x = Check.told("strip 1 reapers 1;strip 0;strip 0;strip 0;strip 1 reapers 1;lamp at 4 power 1;");
        check.due("both ends in five minutes", x.most(5, 0), 2);
        moves("most: to the far end", x, RopeMoon::most, 5, 0, 1, 1, 1, 1);
        moves("most: not so far", x, RopeMoon::most, 4, 0, 0, 0, 0);
        moves("most: as late as can be", x, RopeMoon::most, 8, 0, 0, 0, 0, 1, 1, 1, 1);
    }

    private static void dearestBids() {
        RopeMoon x = Check.told(SPOT + "bid 1 0;bid 2 0;");
        check.due("no bids", x.dearest(8, 0), 0);
        moves("no bids", x, RopeMoon::dearest, 2, 0, 0);
        x = Check.told(SPOT + "bid 1 1;bid 2 99;");
        check.due("one and seven times 99", x.dearest(8, 0), 8 * 99);
        moves("at once to the dear one", x, RopeMoon::dearest, 8, 2, 0, 0, 0, 0, 0, 0, 0);
        x = Check.told(NINES + "strip 99 reapers 9 farm 5;".repeat(15) + "lamp at 8 power 20 fade 0;");
        check.due("the most bids there can be", x.dearest(8, 0), 16 * 72 * 99);
        check.due("the most sheaves there can be", x.most(8, 0), 16 * 72);
        check.due("what the fairest has then", x.fairest(8, 1), 16 * 72);
    }

    private static void dearestFewer() {
        RopeMoon x = Check.told("strip 99 reapers 9 farm 1;strip 99 reapers 9 farm 2;lamp power 9 fade 9;bid 1 3;bid 2 10;");
        check.due("as many, but dearer", x.dearest(1, 0), 90);
        moves("as many, but dearer", x, RopeMoon::dearest, 1, 2);
        x = Check.told("strip 99 reapers 9 farm 1;strip 99 reapers 1 farm 2;lamp power 9 fade 9;bid 1 3;bid 2 28;");
        check.due("fewer, but dearer", x.dearest(1, 0), 28);
        check.due("more, but cheaper", x.most(1, 0), 9);
    }

    private static void fairestFarms() {
        RopeMoon x = Check.told(SPOT);
        check.due("a farm without strips does not count", x.fairest(2, 0), 1);
        check.due("one minute: one goes without", x.fairest(1, 0), 0);
        check.due("one minute: one of all", x.fairest(1, 1), 1);
        x = Check.told(SPOT + "strip 0 farm 5;");
        check.due("a farm with an empty strip counts", x.fairest(8, 0), 0);
        check.due("then all", x.fairest(8, 1), 8);
        x = Check.told(SPOT + "strip 9 reapers 9 farm 1;");
        check.due("a farm of two strips", x.fairest(4, 0), 2);
        x = Check.told(SPOT + "oil 0;");
        check.due("no oil", x.fairest(8, 0), 0);
        check.due("no oil", x.fairest(8, 1), 0);
    }

    private static void fairestThenMost() {
        RopeMoon x = Check.told("strip 1 reapers 1;strip 9 reapers 3 farm 1;lamp power 3 fade 3;");
        check.due("fewest", x.fairest(3, 0), 1);
        check.due("then the most of all", x.fairest(3, 1), 7);
        moves("then the most of all", x, RopeMoon::fairest, 3, 0, 2, 0);
        x = Check.told("strip 9 reapers 1;strip 9 reapers 3 farm 1;lamp at 1 power 3 fade 3;");
        check.due("fewest ahead of most", x.fairest(3, 0), 2);
        check.due("all", x.fairest(3, 1), 5);
        check.due("the most would be", x.most(3, 0), 9);
    }

    private static void aloneFarms() {
        RopeMoon x = Check.told(SPOT);
        for (int f = 0; f <= 5; f++) {
            int farm = f;
            check.due("alone for " + f, x.alone(f, 8, 0), f == 1 || f == 2 ? 8 : 0);
            moves("alone for " + f, x, (y, m, what) -> y.alone(farm, m, what), 2, f == 2 ? new int[] {2, 0} : new int[2]);
        }
    }

    private static void paysEdges() {
        RopeMoon x = Check.told("strip 9 reapers 1 farm 1;strip 0;strip 9 reapers 1 farm 2;lamp at 1 power 1;");
        check.due("of like ones the first is the way to farm 1", x.pays(1, 1), 1);
        check.due("farm 2 takes nothing away", x.pays(2, 1), 0);
        x = Check.told("strip 9 reapers 1 farm 1;strip 0;strip 9 reapers 1 farm 2;lamp at 1 power 1;bid 1 0;bid 2 99;");
        check.due("who bids nothing", x.pays(1, 8), 0);
        check.due("who bids against nothing", x.pays(2, 8), 0);
        check.due("who has no strip", x.pays(5, 8), 0);
        x = Check.told("strip 9 reapers 1 farm 1;strip 0;strip 9 reapers 1 farm 2;lamp at 1 power 1;bid 1 98;bid 2 99;");
        check.due("eight minutes at 98", x.pays(2, 8), 8 * 98);
        check.due("the cheaper one", x.pays(1, 8), 0);
        check.due("the only farm", Check.told("strip 9;bid 0 99;").pays(0, 8), 0);
        check.due("without oil", Check.told(SPOT + "oil 0;").pays(1, 8), 0);
    }

    private static void shift(String of, RopeMoon x, int m, int more, int from, int to) {
        check.due(of + ": how many more", x.shifted(m, 0), more);
        check.due(of + ": from", x.shifted(m, 1), from);
        check.due(of + ": to", x.shifted(m, 2), to);
    }

    private static void shiftedFewerThanNine() {
        shift("to eight", Check.told("strip 0 reapers 1;strip 99 reapers 8;lamp at 1 power 20 fade 9;"), 1, 1, 0, 1);
        shift("to nine", Check.told("strip 0 reapers 1;strip 99 reapers 9;lamp at 1 power 20 fade 9;"), 1, 0, -1, -1);
        shift("no light for one more", Check.told("strip 0 reapers 1;strip 99 reapers 4;lamp at 1 power 4;"), 1, 0, -1, -1);
        shift("no crop for one more", Check.told("strip 0 reapers 1;strip 4 reapers 4;lamp at 1 power 9;"), 1, 0, -1, -1);
    }

    private static void shiftedFromSomebody() {
        shift("nobody on strip 0", Check.told("strip 0 reapers 0;strip 0 reapers 1;strip 9 reapers 1;lamp at 2 power 2 fade 9;"),
            1, 1, 1, 2);
        shift("nobody anywhere else", Check.told("strip 0 reapers 0;strip 9 reapers 1;lamp at 1 power 2 fade 9;"), 1, 0, -1, -1);
        shift("one strip", Check.told("strip 9 reapers 1;lamp power 2;"), 5, 0, -1, -1);
        shift("what one loses the other gains", Check.told("strip 9 reapers 1;strip 9 reapers 1;lamp power 2 fade 0;"),
            1, 0, -1, -1);
    }

    private static void shiftedFirst() {
        shift("from 0 ahead of from 1", Check.told("strip 0;strip 0;strip 9 reapers 1;lamp at 2 power 2 fade 9;"), 1, 1, 0, 2);
        shift("to 1 ahead of to 2", Check.told("strip 0;strip 9 reapers 1;strip 9 reapers 1;lamp power 2 fade 0;"), 1, 1, 0, 1);
        shift("to 0 ahead of to 2",
            Check.told("strip 9 reapers 1;strip 0 reapers 1;strip 9 reapers 2;lamp at 1 power 3 fade 0;"), 1, 1, 1, 0);
        shift("two more is better", Check.told("strip 0;strip 2 reapers 1;strip 9 reapers 1;lamp power 9 fade 0;"), 2, 2, 0, 2);
        RopeMoon x = Check.told("strip 0;strip 9 reapers 1;lamp power 9 fade 0;oil 0;");
        shift("without oil", x, 5, 0, -1, -1);
    }

    private static void shiftedMinutes() {
        for (int m = 1; m <= 5; m++) {
            shift("one more each minute", Check.told("strip 0;strip 99 reapers 1;lamp power 9;"), m, m, 0, 1);
        }
        shift("oil for two", Check.told("strip 0;strip 99 reapers 1;lamp power 9;oil 2;"), 5, 2, 0, 1);
        shift("what one loses is less", Check.told("strip 5 reapers 3;strip 99 reapers 1;lamp power 9 fade 0;"), 2, 1, 0, 1);
        RopeMoon full = Check.told("strip 99 reapers 1;".repeat(15) + "strip 0 reapers 1;lamp at 15 power 20 fade 0;");
        shift("from the last", full, 5, 5, 15, 0);
    }

    private static void fall(String of, RopeMoon x, int m, int more, int strip) {
        check.due(of + ": how many more", x.felled(m, 0), more);
        check.due(of + ": the strip", x.felled(m, 1), strip);
    }

    private static void felledEdges() {
        fall("a tree of 1", Check.told("strip 9;strip 0;strip 0 tree 1;strip 0;strip 0;lamp at 4 height 1 power 9;oil 1;"), 1, 2, 2);
        fall("no tree", Check.told("strip 9;strip 9;"), 6, 0, -1);
        fall("a tree that shades nothing", Check.told("strip 9 tree 30;strip 9;"), 6, 0, -1);
        String one = "strip 9 reapers 1;strip 0 tree 1;strip 9 reapers 1;lamp height 1 power 3 fade 1;";
        fall("it can go to the tree", Check.told(one), 1, 0, -1);
        String far = "strip 0;strip 0 tree 9;strip 0;strip 9 reapers 1;strip 9 reapers 1;lamp height 1 power 9 fade 1;";
        fall("both behind it", Check.told(far), 1, 0, -1);
        String two = "strip 9 reapers 1;strip 0 tree 30;strip 0;strip 0 tree 30;strip 9 reapers 1;lamp at 2 height 1 power 9;";
        fall("the first of like ones", Check.told(two), 1, 1, 1);
        String other = "strip 0;strip 9 reapers 1;strip 0 tree 30;strip 0;strip 0;strip 0;strip 0 tree 30;strip 9 reapers 3;"
            + "lamp at 4 height 1 power 20 fade 0;";
        fall("the better one", Check.told(other), 1, 3, 6);
        fall("without oil", Check.told(two + "oil 0;"), 6, 0, -1);
        String steep = "strip 9 reapers 1;strip 9 reapers 1 tree 2;strip 9 reapers 1;lamp height 4 power 9;";
        fall("just high enough", Check.told(steep), 1, 0, -1);
    }

    private static void felledMinutes() {
        // Over the middle of five strips with high trees beside it: felling one lights the strip behind it.
        String text = "strip 99 reapers 9;strip 0 tree 30;strip 99 reapers 9;strip 0 tree 30;strip 99 reapers 9;"
            + "lamp at 2 height 1 power 20 fade 0;";
        for (int m = 1; m <= 6; m++) {
            RopeMoon x = Check.told(text);
            check.due("two strips from over a tree", x.most(m, 0), 18 * m);
            fall("all three", x, m, 9 * m, 1);
            check.due("the tree stands", x.strip(1, 2), 30);
        }
        fall("oil for four", Check.told(text + "oil 4;"), 6, 36, 1);
        String last = "strip 9 reapers 9;".repeat(13) + "strip 0;strip 0 tree 30;strip 9 reapers 9;lamp height 1 power 20 fade 0;";
        fall("a tree near the end", Check.told(last), 1, 9, 14);
    }

    private static void soonestBounds() {
        for (int sheaves : new int[] {-1, 10000, Integer.MIN_VALUE, Integer.MAX_VALUE}) {
            Edge.refused(check, "soonest(" + sheaves + ")", Edge::busy, -3, x -> x.soonest(sheaves));
            Edge.refused(check, "soonest(" + sheaves + ")", Edge::bare, -3, x -> x.soonest(sheaves));
        }
        RopeMoon x = Edge.busy();
        check.due("soonest(0)", x.soonest(0), 0);
        check.due("soonest(9999)", x.soonest(9999), -1);
        check.due("soonest(0) without oil", Edge.dry().soonest(0), 0);
        check.due("soonest(1) without oil", Edge.dry().soonest(1), -1);
    }

    private static void soonestToEight() {
        RopeMoon x = Check.told("strip 99 reapers 1;lamp power 1;");
        for (int sheaves = 0; sheaves <= 8; sheaves++) {
            check.due("soonest(" + sheaves + ")", x.soonest(sheaves), sheaves);
        }
        check.due("not by 8", x.soonest(9), -1);
        x = Check.told("strip 99 reapers 9;lamp power 20;");
        check.due("9", x.soonest(9), 1);
        check.due("10", x.soonest(10), 2);
        check.due("72", x.soonest(72), 8);
        check.due("73", x.soonest(73), -1);
        x = Check.told("strip 3 reapers 1;lamp power 1;");
        check.due("all that stand", x.soonest(3), 3);
        check.due("one more", x.soonest(4), -1);
        x = Check.told("strip 1 reapers 1;".repeat(16) + "lamp power 16 fade 1;");
        check.due("sixteen at once", x.soonest(16), 1);
    }

    private static void darkNoneAndAll() {
        check.due("none", Check.told("strip 1;".repeat(16) + "lamp power 1;").dark(), 0);
        check.due("all sixteen", Check.told("strip 1;".repeat(16) + "lamp power 0;").dark(), 0xFFFF);
        check.due("one", Check.told("strip 1;lamp power 0;").dark(), 1);
        check.due("no strips", Edge.bare().dark(), 0);
        check.due("oil aside", Check.told("strip 1;oil 0;").dark(), 0);
    }

    private static void endsBounds() {
        RopeMoon x = Check.told(SPOT);
        for (int m = 1; m <= 6; m++) {
            check.due("ends(" + m + ")", x.ends(m), m + 1);
        }
        check.due("one strip", Check.told("strip 99;").ends(6), 1);
        check.due("nothing to reap", Check.told("strip 0;strip 0;strip 0;").ends(6), 1);
        check.due("no light", Check.told("strip 9;strip 9;strip 9;lamp at 1 power 0;").ends(6), 1);
        check.due("nobody reaps", Check.told("strip 9 reapers 0;".repeat(16) + "lamp at 8;").ends(6), 1);
        // The second strip loses nine in each minute, the first one only if the lamp goes to its tree or beyond.
        x = Check.told("strip 8 reapers 1;strip 99 reapers 9 tree 30;strip 0;lamp at 2 power 20 fade 9;");
        check.due("large crops beside small ones", x.ends(6), 7);
        // Minutes over each of sixteen strips tell all ways apart: from the middle, 13 places for six minutes.
        x = Check.told("strip 99 reapers 1;".repeat(16) + "lamp at 8 power 1;");
        int[] due = {3, 7, 16, 36, 79, 171};
        for (int m = 1; m <= 6; m++) {
            check.due("ways to have hung, " + m, x.ends(m), due[m - 1]);
        }
    }

    private static void endsFewerMinutes() {
        for (int oil = 0; oil <= 6; oil++) {
            RopeMoon x = Check.told(SPOT + "oil " + oil + ";");
            check.due("as many minutes as there are", x.ends(6), oil + 1);
        }
    }

    private static void haltsNone() {
        check.due("no set", Edge.busy().halts(0), 0);
        check.due("no set, no way", Edge.busy().tour(0), 0);
        RopeMoon x = Check.told("strip 1;strip 1;lamp power 0;");
        check.due("no set", x.halts(0), 0);
        for (int set = 1; set <= 3; set++) {
            check.due("can't be lit", x.halts(set), -1);
            check.due("can't be lit", x.tour(set), -1);
        }
        x = Check.told("strip 1;".repeat(16) + "lamp power 1;");
        check.due("all sixteen alone", x.halts(0xFFFF), 0xFFFF);
        check.due("the way over them", x.tour(0xFFFF), 15);
        x = Check.told("strip 1;".repeat(16) + "lamp power 1 fade 0;");
        check.due("all from one", x.halts(0xFFFF), 1);
        check.due("it hangs there", x.tour(0xFFFF), 0);
    }

    private static void haltsFewestThenLeast() {
        RopeMoon x = Check.told("strip 1;".repeat(7) + "lamp power 2;");
        check.due("one in the middle, not two below", x.halts(0b101), 0b10);
        check.due("two", x.halts(0b1001), 0b101);
        check.due("the least of three", x.halts(0b100), 0b10);
        check.due("the last from the one below", x.halts(0b1000000), 0b100000);
        check.due("all seven", x.halts(0b1111111), 0b100101);
        check.due("oil aside", Check.told("strip 1;oil 0;").halts(1), 1);
    }

    private static void tours() {
        String text = "strip 1;".repeat(8) + "lamp at AT power 1;";
        int[] toOne = {3, 2, 1, 0, 1, 2, 3, 4};
        int[] toThree = {5, 4, 5, 6, 5, 4, 5, 6};
        int[] toBothEnds = {7, 8, 9, 10, 10, 9, 8, 7};
        for (int at = 0; at < 8; at++) {
            RopeMoon x = Check.told(text.replace("AT", "" + at));
            check.due("to strip 3 from " + at, x.tour(0b1000), toOne[at]);
            check.due("to 1 and 4 and 5 from " + at, x.tour(0b110010), toThree[at]);
            check.due("to 0 and 7 from " + at, x.tour(0b10000001), toBothEnds[at]);
        }
    }

    private static void refusedSets() {
        for (int set : new int[] {16, 17, 1 << 16, -1, Integer.MIN_VALUE, Integer.MAX_VALUE}) {
            Edge.refused(check, "halts(" + set + ")", Edge::busy, -3, x -> x.halts(set));
            Edge.refused(check, "tour(" + set + ")", Edge::busy, -3, x -> x.tour(set));
            Edge.refused(check, "halts(" + set + ")", Edge::bare, -3, x -> x.halts(set));
            Edge.refused(check, "tour(" + set + ")", Edge::bare, -3, x -> x.tour(set));
        }
        RopeMoon full = Check.told("strip 1;".repeat(16) + "lamp power 0;");
        check.due("a seventeenth ahead of can't be lit", full.halts(0x10001), -3);
        check.due("a seventeenth ahead of can't be lit", full.tour(0x10001), -3);
    }

    private static void seekingChangesNothing() {
        RopeMoon x = Edge.busy();
        for (int m = 1; m <= 8; m++) {
            x.most(m, 0);
            x.dearest(m, 10);
            x.fairest(m, 1);
            x.alone(1, m, 0);
            x.pays(1, m);
            x.shifted(m, 0);
            x.felled(m, 0);
            x.ends(m);
            x.soonest(4 * m);
        }
        x.dark();
        x.halts(15);
        x.tour(15);
        Edge.alike(check, "seeking", Probe.everythingOf(x), Probe.everythingOf(Edge.busy()));
    }

    private static void allOf(RopeMoon x, String text, int strips, int at) {
        check.due("another plain", Check.tell(x, text) > 0 ? 1 : 0, 1);
        RopeMoon fresh = Check.told(text);
        for (int m = 8; m >= 1; m--) {
            check.due(text + " most", x.most(m, 0), fresh.most(m, 0));
            check.due(text + " first", x.most(m, 10), fresh.most(m, 10));
            check.due(text + " fairest", x.fairest(m, 0), fresh.fairest(m, 0));
            check.due(text + " pays", x.pays(1, m), fresh.pays(1, m));
            check.due(text + " shifted", x.shifted(m, 0), fresh.shifted(m, 0));
            check.due(text + " felled", x.felled(m, 0), fresh.felled(m, 0));
            check.due(text + " ends", x.ends(m), fresh.ends(m));
        }
        check.due("strips", x.count(0), strips);
        check.due("hangs", x.count(2), at);
        check.due("halts", x.halts((1 << strips) - 1), fresh.halts((1 << strips) - 1));
    }

    private static void nothingIsLeftOfEarlierCalls() {
        RopeMoon x = new RopeMoon();
        String rich = "strip 99 reapers 8 tree 9 farm 1;";
        String poor = "strip 1 reapers 1;";
        allOf(x, rich.repeat(9) + "lamp at 4 height 3 power 20;", 9, 4);
        allOf(x, poor.repeat(5) + "lamp at 4 power 2;", 5, 4);
        allOf(x, poor.repeat(5) + "lamp at 0 power 2;", 5, 0);
        allOf(x, poor.repeat(2) + "lamp at 0 power 1;", 2, 0);
        allOf(x, poor + "lamp power 1;", 1, 0);
        RopeMoon y = Check.told("strip 0;strip 99 reapers 1;lamp at 1 power 9;");
        check.due("eight minutes", y.most(8, 0), 8);
        shift("one minute behind eight", y, 1, 1, 0, 1);
        shift("five", y, 5, 5, 0, 1);
        shift("two behind five", y, 2, 2, 0, 1);
        check.due("hung over both behind eight", y.ends(1), 1);
    }

    /** Sixteen strips of all that can be; none of them is cut bare in eight minutes. */
    private static void fullPlain() {
        String strip = "strip 99 reapers 9 tree 30 farm 5;";
        int[] places = {0, 8, 15};
        int[] trees = {2, 6, 13};
        for (int i = 0; i < 3; i++) {
            RopeMoon x = Check.told(strip.repeat(16) + "lamp at " + places[i] + " height 30 power 20 fade 9;bid 5 99;");
            check.due("three strips in one minute", x.most(1, 0), 27);
            check.due("in eight", x.most(8, 0), 8 * 27);
            check.due("bids", x.dearest(8, 0), 99 * 8 * 27);
            check.due("fewest", x.fairest(8, 0), 8 * 27);
            check.due("alone", x.alone(5, 8, 0), 8 * 27);
            check.due("pays", x.pays(5, 8), 0);
            check.due("all have nine", x.shifted(5, 0), 0);
            // Two steps behind a felled tree there is LIGHT 2.
            fall("a strip more", x, 6, 12, trees[i]);
            check.due("soonest", x.soonest(216), 8);
            check.due("not by 8", x.soonest(217), -1);
            check.due("each lights its neighbours", x.halts(0xFFFF), 0b100100100100101);
        }
    }
}
