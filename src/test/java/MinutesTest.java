/** Promises 14 to 19: minute, judge, perform, fill, night, walk. */
public final class MinutesTest {
    private static final Check check = new Check("MinutesTest");
    private static final String THREE = "strip 5 reapers 3;strip 9 reapers 9 farm 1;strip 2;lamp at 0 power 4 fade 2;oil 3;";

    public static void main(String[] args) {
        minutes();
        rows();
        oil();
        nights();
        walks();
        lastMinute();
        check.finish();
    }

    private static void minutes() {
        RopeMoon x = Check.told(THREE);
        check.due("below the first", x.minute(1), -2);
        check.due("no move", x.minute(3), -2);
        check.due("no move", x.minute(-1), -2);
        check.due("3 and 2 and none", x.minute(0), 5);
        check.due("2, 4 and 2", x.minute(2), 8);
        check.due("crop", x.strip(0, 0), 0);
        check.due("2 of 3", x.minute(2), 2);
        check.due("no oil", x.minute(0), -5);
        check.due("no strip ahead of no oil", x.minute(2), -2);
        check.due("minute", x.count(1), 3);
        check.due("hangs", x.count(2), 2);
        check.due("stand", x.count(9), 1);
        check.due("reaped", x.count(10), 15);
        check.due("without strips", new RopeMoon().minute(0), -2);
    }

    private static void judged(RopeMoon x, int place, int why, int sheaves, int strip) {
        check.due("judge 0", x.judge(0, 0), place);
        check.due("judge 1", x.judge(0, 1), why);
        check.due("judge 2", x.judge(0, 2), sheaves);
        check.due("judge 3", x.judge(0, 3), strip);
    }

    private static void rows() {
        RopeMoon x = Check.told(THREE);
        check.due("missing", x.judge(0, 0), -6);
        check.due("missing", x.perform(3), -6);
        check.due("what ahead of missing", x.judge(0, 4), -2);
        check.due("what", x.judge(0, -1), -2);
        check.due("row", x.judge(4, 0), -2);
        check.due("row", x.judge(-1, 0), -2);
        check.due("row", x.perform(4), -2);
        check.due("row", x.perform(-1), -2);
        Check.row(x, 0, 0);
        judged(x, -1, 0, 0, 0);
        check.due("none made", x.perform(0), 0);
        Check.row(x, 0, 1, 0, 2, 2);
        judged(x, -1, 0, 15, 2);
        Check.row(x, 0, 1, 0, 2, 2, 0);
        judged(x, 3, 2, 15, 2);
        Check.row(x, 0, 1, 0, 2, 2, 2);
        judged(x, 3, 1, 15, 2);
        Check.row(x, 0, 2, 2, 3, 2);
        judged(x, 1, 1, 8, 1);
        Check.row(x, 0, 3, 4294967296L);
        judged(x, 0, 1, 0, 0);
        Check.row(x, 0, 3, 2, 1, 1);
        judged(x, 2, 1, 13, 0);
        check.due("as if made", x.count(1), 0);
        check.due("as if made", x.count(10), 0);
        check.due("made", x.perform(0), 2);
        check.due("reaped", x.count(10), 13);
        check.due("oil", x.count(6), 1);
        check.due("hangs", x.count(2), 0);
        RopeMoon bare = new RopeMoon();
        Check.row(bare, 0, 0, 0);
        judged(bare, 0, 1, 0, -1);
        check.due("none made", bare.perform(0), 0);
    }

    private static void oil() {
        RopeMoon x = Check.told("strip 1;oil 850;");
        check.due("fill(-1)", x.fill(-1), -3);
        check.due("fill(100)", x.fill(100), -3);
        check.due("fill(0)", x.fill(0), 850);
        check.due("fill(99)", x.fill(99), 949);
        check.due("fill(99)", x.fill(99), 999);
        check.due("oil", x.count(6), 999);
        check.due("without strips", new RopeMoon().fill(1), 61);
    }

    private static void nights() {
        RopeMoon x = Check.told("strip 9;strip 9;strip 9;lamp at 1;oil 2;");
        check.due("night(1, 0)", x.night(1, 0), -3);
        check.due("night(1, 61)", x.night(1, 61), -3);
        check.due("till there is no oil", x.night(1, 60), 12);
        check.due("minute", x.count(1), 2);
        check.due("no oil", x.night(1, 1), -5);
        check.due("minutes ahead of oil", x.night(1, 61), -3);
        check.due("no strips", new RopeMoon().night(1, 1), -5);
        nightByHand(20261118, 40);
        nightByHand(-7, 0);
        nightByHand(Integer.MIN_VALUE, 100);
    }

    /** Thirty minutes over four strips that are lit by 3, 2, 1, 0 and have two reapers each. */
    private static void nightByHand(int seed, int moths) {
        int[] crops = {9, 99, 30, 5};
        int at = 3;
        int sheaves = 0;
        int x = seed;
        for (int i = 0; i < 30; i++) {
            x = x * 1103515245 + 12345;
            int move = (x >>> 16) % 3;
            x = x * 1103515245 + 12345;
            boolean calm = (x >>> 16) % 100 >= moths;
            int to = move == 0 ? at : move == 1 ? at - 1 : at + 1;
            at = to < 0 || to > 3 ? at : to;
            for (int s = 0; calm && s < 4; s++) {
                int cut = Math.min(crops[s], Math.min(2, 3 - Math.abs(at - s)));
                crops[s] -= cut;
                sheaves += cut;
            }
        }
        RopeMoon night = Check.told("strip 9;strip 99;strip 30;strip 5;lamp at 3 power 3;moths " + moths + ";");
        check.due("a night's sheaves", night.night(seed, 30), sheaves);
        check.due("where it hangs", night.count(2), at);
        check.due("oil", night.count(6), 30);
        check.due("minute", night.count(1), 30);
        for (int s = 0; s < 4; s++) {
            check.due("crop", night.strip(s, 0), crops[s]);
        }
    }

    private static void walks() {
        RopeMoon x = Check.told("strip 1 reapers 5;strip 1 reapers 6;strip 1 reapers 0;");
        check.due("walk(3, 0, 0)", x.walk(3, 0, 0), -2);
        check.due("walk(0, 3, 0)", x.walk(0, 3, 0), -2);
        check.due("walk(-1, 0, 0)", x.walk(-1, 0, 0), -2);
        check.due("walk(0, 1, -1)", x.walk(0, 1, -1), -3);
        check.due("walk(0, 1, 6)", x.walk(0, 1, 6), -3);
        check.due("walk(0, 1, 4)", x.walk(0, 1, 4), -4);
        check.due("walk(0, 1, 3)", x.walk(0, 1, 3), 0);
        check.due("from", x.strip(0, 1), 2);
        check.due("to", x.strip(1, 1), 9);
        check.due("walk(1, 0, 0)", x.walk(1, 0, 0), 0);
        check.due("walk(1, 2, 9)", x.walk(1, 2, 9), 0);
        check.due("to", x.strip(2, 1), 9);
        check.due("nobody goes away", x.walk(2, 2, 4), 0);
        check.due("the same", x.strip(2, 1), 9);
    }

    private static void lastMinute() {
        RopeMoon x = Check.told("strip 99;strip 99;oil 999;");
        for (int i = 0; i < 166; i++) {
            x.night(i, 60);
            if (x.count(6) < 120) {
                x.fill(99);
            }
        }
        check.due("minute", x.count(1), 9960);
        x.fill(99);
        check.due("above 9999", x.night(0, 40), -5);
        x.image(0);
        check.due("just 9999", x.night(0, 39), 0);
        check.due("minute", x.count(1), 9999);
        x.restore(0);
        x.night(0, 37);
        check.due("minute", x.count(1), 9997);
        check.due("most minutes left", x.most(8, 1), 2);
        Check.row(x, 0, 0, 0, 0, 0);
        check.due("judge 0", x.judge(0, 0), 2);
        check.due("judge 1", x.judge(0, 1), 3);
        check.due("made", x.perform(0), 2);
        check.due("minute", x.count(1), 9999);
        check.due("too late", x.minute(0), -5);
        check.due("too late", x.night(0, 1), -5);
        Check.tell(x, "strip 1;");
        check.due("minute", x.count(1), 0);
    }
}
