/** Promises 20 to 31: most, dearest, fairest, alone, pays, shifted, felled, soonest, dark, ends, halts, tour. */
public final class SoughtTest {
    private static final Check check = new Check("SoughtTest");
    // Only the strip under the lamp is lit, by 9: three reapers cut three of it in a minute.
    private static final String SPOT = "strip 4 reapers 3 farm 1;strip 0 reapers 0;strip 9 reapers 3 farm 2;"
        + "lamp at 1 power 9 fade 9;";

    public static void main(String[] args) {
        refusals();
        most();
        dearest();
        fairest();
        alone();
        pays();
        shifted();
        felled();
        soonest();
        ends();
        halts();
        changesNothing();
        check.finish();
    }

    private static void moves(String what, int[] got, int... due) {
        for (int k = 0; k < 8; k++) {
            check.due(what + " " + k, got[k], k < due.length ? due[k] : -1);
        }
    }

    private static int[] mostMoves(RopeMoon x, int m) {
        int[] got = new int[8];
        for (int k = 0; k < 8; k++) {
            got[k] = x.most(m, 10 + k);
        }
        return got;
    }

    private static void refusals() {
        RopeMoon x = Check.told(SPOT);
        RopeMoon bare = new RopeMoon();
        for (int what : new int[] {-1, 2, 9, 18}) {
            check.due("most what", x.most(9, what), -2);
            check.due("dearest what", x.dearest(9, what), -2);
            check.due("fairest what", x.fairest(9, what), -2);
            check.due("alone what", x.alone(0, 9, what), -2);
            check.due("felled what", x.felled(7, what), -2);
        }
        check.due("dearest 1", x.dearest(1, 1), -2);
        check.due("alone 1", x.alone(0, 1, 1), -2);
        check.due("shifted 3", x.shifted(6, 3), -2);
        check.due("shifted -1", x.shifted(6, -1), -2);
        for (int f : new int[] {-1, 6}) {
            check.due("alone farm", x.alone(f, 9, 0), -2);
            check.due("pays farm", x.pays(f, 9), -2);
        }
        for (int m : new int[] {0, 9}) {
            check.due("most m", bare.most(m, 0), -3);
            check.due("dearest m", bare.dearest(m, 17), -3);
            check.due("fairest m", bare.fairest(m, 1), -3);
            check.due("alone m", bare.alone(5, m, 10), -3);
            check.due("pays m", bare.pays(0, m), -3);
        }
        check.due("shifted m", bare.shifted(6, 0), -3);
        check.due("shifted m", bare.shifted(0, 0), -3);
        check.due("felled m", bare.felled(7, 0), -3);
        check.due("felled m", bare.felled(0, 0), -3);
        check.due("ends m", bare.ends(7), -3);
        check.due("ends m", bare.ends(0), -3);
        check.due("soonest", bare.soonest(-1), -3);
        check.due("soonest", bare.soonest(10000), -3);
        check.due("most bare", bare.most(8, 17), -5);
        check.due("dearest bare", bare.dearest(8, 0), -5);
        check.due("fairest bare", bare.fairest(8, 0), -5);
        check.due("alone bare", bare.alone(0, 8, 0), -5);
        check.due("pays bare", bare.pays(0, 8), -5);
        check.due("shifted bare", bare.shifted(5, 2), -5);
        check.due("felled bare", bare.felled(6, 1), -5);
        check.due("ends bare", bare.ends(6), -5);
        check.due("soonest bare", bare.soonest(0), -5);
    }

    private static void most() {
        RopeMoon x = Check.told(SPOT);
        check.due("1", x.most(1, 0), 3);
        moves("1", mostMoves(x, 1), 1);
        check.due("2", x.most(2, 0), 6);
        moves("2: both ends are worth two minutes, but only the far one three a minute", mostMoves(x, 2), 2, 0);
        check.due("5", x.most(5, 0), 12);
        moves("5", mostMoves(x, 5), 1, 2, 2, 0, 0);
        check.due("6", x.most(6, 0), 13);
        moves("6", mostMoves(x, 6), 1, 0, 2, 2, 0, 0);
        check.due("8 minutes", x.most(8, 1), 8);
        moves("8: the first of like ones", mostMoves(x, 8), 0, 0, 1, 0, 2, 2, 0, 0);
        RopeMoon dry = Check.told(SPOT + "oil 2;");
        check.due("two minutes of oil", dry.most(8, 0), 6);
        check.due("two minutes of oil", dry.most(8, 1), 2);
        moves("two minutes of oil", mostMoves(dry, 8), 2, 0);
        dry = Check.told(SPOT + "oil 0;");
        check.due("no oil", dry.most(8, 0), 0);
        check.due("no oil", dry.most(8, 1), 0);
        moves("no oil", mostMoves(dry, 8));
    }

    private static void dearest() {
        RopeMoon x = Check.told(SPOT + "bid 1 5;bid 2 2;");
        check.due("bids", x.dearest(2, 0), 20);
        check.due("first", x.dearest(2, 10), 1);
        check.due("second", x.dearest(2, 11), 0);
        check.due("third", x.dearest(2, 12), -1);
        x = Check.told(SPOT + "bid 1 0;bid 2 0;");
        check.due("no bids", x.dearest(3, 0), 0);
        check.due("the first of all", x.dearest(3, 10), 0);
    }

    private static void fairest() {
        RopeMoon x = Check.told(SPOT);
        check.due("the bare strip is a farm's", x.fairest(6, 0), 0);
        check.due("then all together", x.fairest(6, 1), 13);
        String two = "strip 9 reapers 1 farm 1;strip 9 reapers 9 farm 2;lamp at 1 power 9 fade 9;";
        x = Check.told(two);
        check.due("fewest", x.fairest(4, 0), 3);
        check.due("all", x.fairest(4, 1), 12);
        check.due("moves", x.fairest(4, 10), 0);
        check.due("moves", x.fairest(4, 11), 1);
        check.due("moves", x.fairest(4, 12), 0);
        check.due("moves", x.fairest(4, 14), -1);
        check.due("most is another thing", x.most(2, 0), 10);
        x.minute(0);
        check.due("what was reaped earlier does not count", x.fairest(2, 0), 0);
        check.due("all", x.fairest(2, 1), 2);
    }

    private static void alone() {
        RopeMoon x = Check.told(SPOT);
        check.due("farm 1", x.alone(1, 2, 0), 4);
        check.due("farm 1", x.alone(1, 2, 10), 1);
        check.due("farm 2", x.alone(2, 2, 0), 6);
        check.due("farm 2", x.alone(2, 2, 10), 2);
        check.due("of no strip", x.alone(5, 2, 0), 0);
        check.due("of no strip", x.alone(5, 2, 10), 0);
        check.due("no more moves", x.alone(5, 2, 12), -1);
        check.due("farm 1, as late as can be", x.alone(1, 3, 10), 0);
    }

    private static void pays() {
        RopeMoon x = Check.told(SPOT + "bid 1 5;bid 2 2;");
        check.due("farm 1 keeps 6 sheaves at 2 away", x.pays(1, 2), 12);
        check.due("farm 2 gets nothing", x.pays(2, 2), 0);
        check.due("farm 0 neither", x.pays(0, 2), 0);
        check.due("farm 5 has no strip", x.pays(5, 2), 0);
    }

    private static void shifted() {
        RopeMoon x = Check.told("strip 9 reapers 3;strip 9 reapers 3;strip 9 reapers 3;lamp at 1 power 4 fade 9;");
        check.due("one more", x.shifted(1, 0), 1);
        check.due("from", x.shifted(1, 1), 0);
        check.due("to", x.shifted(1, 2), 1);
        x = Check.told("strip 9 reapers 3;strip 9 reapers 4;lamp at 1 power 4 fade 9;");
        check.due("light allows no more", x.shifted(1, 0), 0);
        check.due("from none", x.shifted(1, 1), -1);
        check.due("to none", x.shifted(1, 2), -1);
        x = Check.told("strip 0 reapers 1;strip 99 reapers 9;lamp at 1 power 20 fade 9;");
        check.due("nine are enough", x.shifted(1, 0), 0);
    }

    private static void felled() {
        RopeMoon x = Check.told("strip 9;strip 9 tree 30;strip 9;strip 9 tree 30;strip 9;strip 0 tree 30;"
            + "lamp at 2 height 1 power 9 fade 1;");
        check.due("two sheaves more", x.felled(1, 0), 2);
        check.due("the first", x.felled(1, 1), 1);
        x.fell(1);
        check.due("it can hang over the other tree", x.felled(1, 0), 0);
        check.due("it can hang over the other tree", x.felled(1, 1), -1);
        x.fell(3);
        check.due("none brings more", x.felled(6, 0), 0);
        check.due("none brings more", x.felled(6, 1), -1);
        x = Check.told("strip 9;strip 9 tree 30;strip 9;strip 9;strip 9;strip 9 tree 30;strip 9;strip 9;"
            + "lamp at 3 height 1 power 9;");
        check.due("two strips more", x.felled(1, 0), 4);
        check.due("the later tree", x.felled(1, 1), 5);
    }

    private static void soonest() {
        RopeMoon x = Check.told(SPOT);
        int[] due = {0, 1, 1, 1, 2, 2, 2, 3, 3, 3, 5, 5, 5, 6};
        for (int sheaves = 0; sheaves < due.length; sheaves++) {
            check.due("soonest " + sheaves, x.soonest(sheaves), due[sheaves]);
        }
        check.due("14", x.soonest(14), -1);
        check.due("9999", x.soonest(9999), -1);
        check.due("oil", Check.told(SPOT + "oil 2;").soonest(7), -1);
    }

    private static void ends() {
        RopeMoon x = Check.told(SPOT);
        check.due("one minute: none, 1 or 9", x.ends(1), 3);
        // Of the strips: (4 9), (1 9), (4 6), (0 9), (4 3).
        check.due("two minutes", x.ends(2), 5);
        check.due("with two minutes of oil", Check.told(SPOT + "oil 2;").ends(6), 5);
        check.due("without oil: as they stand", Check.told(SPOT + "oil 0;").ends(6), 1);
        check.due("one strip", Check.told("strip 9;").ends(6), 1);
    }

    private static void halts() {
        RopeMoon x = Check.told("strip 1;strip 1;strip 1;strip 1;strip 1;strip 1;strip 1;lamp at 5 power 2 fade 1;");
        check.due("none", x.halts(0), 0);
        check.due("one", x.halts(1), 1);
        check.due("from the one below", x.halts(2), 1);
        check.due("three of 7", x.halts(127), 1 << 0 | 1 << 2 | 1 << 5);
        check.due("two", x.halts(0b1100011), 1 << 0 | 1 << 5);
        check.due("tour", x.tour(127), 5);
        check.due("tour", x.tour(0b1100011), 5);
        check.due("tour of none", x.tour(0), 0);
        x.minute(1);
        check.due("hangs in between", x.tour(127), 1 + 5);
        x.minute(1);
        x.minute(1);
        x.minute(1);
        check.due("hangs in between", x.tour(127), 1 + 5);
        for (int set : new int[] {128, -1, 129, Integer.MIN_VALUE}) {
            check.due("halts of others", x.halts(set), -3);
            check.due("tour of others", x.tour(set), -3);
        }
        check.due("without strips", new RopeMoon().halts(1), -3);
        RopeMoon out = Check.told("strip 1;lamp power 0;");
        check.due("can't be lit", out.halts(1), -1);
        check.due("can't be lit", out.tour(1), -1);
        check.due("none must be lit", out.halts(0), 0);
        check.due("dark", out.dark(), 1);
        RopeMoon all = Check.told("strip 1;".repeat(16) + "lamp power 1;");
        check.due("each itself", all.halts(65535), 65535);
        check.due("over all", all.tour(65535), 15);
    }

    private static void changesNothing() {
        RopeMoon x = Check.told(SPOT);
        x.most(8, 0);
        x.felled(6, 0);
        x.shifted(5, 0);
        x.pays(1, 8);
        x.ends(6);
        x.soonest(13);
        x.tour(7);
        check.due("minute", x.count(1), 0);
        check.due("stand", x.count(9), 13);
        check.due("reapers", x.strip(0, 1), 3);
        check.due("bid", x.farm(1, 2), 1);
        check.due("hangs", x.count(2), 1);
        check.due("oil", x.count(6), 60);
    }
}
