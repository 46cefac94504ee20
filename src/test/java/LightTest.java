/** Promises 5 to 13: strip, farm, light, lit, shaded, high, highFor, height, fell. */
public final class LightTest {
    private static final Check check = new Check("LightTest");
    private static final String FIVE = "strip 10;strip 20 tree 4 farm 1;strip 30;strip 40 tree 2 farm 1;strip 50 farm 5;"
        + "lamp at 2 height 5 power 5 fade 1;bid 1 8;";

    public static void main(String[] args) {
        strips();
        farms();
        lights();
        heights();
        sets();
        changes();
        check.finish();
    }

    private static void strips() {
        RopeMoon x = Check.told(FIVE);
        for (int what = 0; what <= 5; what++) {
            check.due("strip(5)", x.strip(5, what), -2);
            check.due("strip(-1)", x.strip(-1, what), -2);
        }
        check.due("strip(0, 6)", x.strip(0, 6), -2);
        check.due("strip(0, -1)", x.strip(0, -1), -2);
        check.due("crop", x.strip(4, 0), 50);
        check.due("farm", x.strip(4, 3), 5);
        check.due("light now", x.strip(2, 5), 5);
        check.due("light now, shaded", x.strip(0, 5), 0);
        check.due("minute", x.minute(0), 8);
        check.due("crop", x.strip(2, 0), 28);
        check.due("reaped", x.strip(2, 4), 2);
        RopeMoon dry = Check.told("strip 1;oil 0;");
        check.due("light without oil", dry.strip(0, 5), 6);
    }

    private static void farms() {
        RopeMoon x = Check.told(FIVE);
        check.due("stand", x.farm(1, 1), 60);
        check.due("stand", x.farm(0, 1), 40);
        check.due("bits", x.farm(1, 3), 10);
        check.due("bits", x.farm(5, 3), 16);
        check.due("bits", x.farm(2, 3), 0);
        check.due("bid", x.farm(1, 2), 8);
        x.minute(0);
        check.due("reaped", x.farm(1, 0), 4);
        check.due("reaped", x.farm(0, 0), 2);
        check.due("stand", x.farm(1, 1), 56);
        check.due("farm(-1)", x.farm(-1, 0), -2);
        check.due("farm(6)", x.farm(6, 0), -2);
        check.due("what 4", x.farm(0, 4), -2);
        check.due("what -1", x.farm(0, -1), -2);
    }

    private static void lights() {
        RopeMoon x = Check.told(FIVE);
        check.due("same", x.light(1, 1), 5);
        check.due("a neighbour", x.light(1, 0), 4);
        check.due("4 * 2 is more than 5 * 1", x.light(2, 0), 0);
        check.due("2 * 2 is not more than 5 * 1", x.light(4, 2), 3);
        check.due("far: 4 * 4 is more than 5 * 3", x.light(0, 4), 0);
        check.due("2 * 3 is more than 5 * 1", x.light(1, 4), 0);
        check.due("lit", x.lit(0), 3);
        check.due("lit", x.lit(2), 30);
        check.due("shaded", x.shaded(0), 28);
        check.due("shaded", x.shaded(4), 1);
        check.due("light(5, 0)", x.light(5, 0), -2);
        check.due("light(0, 5)", x.light(0, 5), -2);
        check.due("light(-1, 0)", x.light(-1, 0), -2);
        check.due("lit(5)", x.lit(5), -2);
        check.due("lit(-1)", x.lit(-1), -2);
        check.due("shaded(5)", x.shaded(5), -2);
        check.due("shaded(-1)", x.shaded(-1), -2);
        RopeMoon steep = Check.told("strip 1;strip 1 tree 30;strip 1;lamp power 2 fade 2;");
        check.due("not below 0", steep.light(0, 2), 0);
        check.due("too far is not shaded", steep.shaded(0), 0);
        check.due("dark", steep.dark(), 0);
        RopeMoon out = Check.told("strip 1;strip 1;lamp power 0;");
        check.due("dark", out.dark(), 3);
        check.due("lit", out.lit(0), 0);
    }

    private static void heights() {
        RopeMoon x = Check.told(FIVE);
        check.due("itself", x.high(3, 3), 1);
        check.due("over a tree", x.high(2, 0), 8);
        check.due("the other way", x.high(0, 2), 8);
        check.due("16 / 3, and 8 / 1", x.high(0, 4), 8);
        check.due("from 4: 16 / 1", x.high(4, 0), 16);
        check.due("high(5, 0)", x.high(5, 0), -2);
        check.due("high(0, -1)", x.high(0, -1), -2);
        RopeMoon tall = Check.told("strip 1;strip 1 tree 30;strip 1;strip 1;strip 1;lamp power 4;");
        check.due("30 * 3", tall.high(3, 0), 90);
        check.due("30 * 3 / 2", tall.high(0, 3), 45);
        check.due("no power so far", tall.high(0, 4), -1);
        RopeMoon taller = Check.told("strip 1;strip 1 tree 25;strip 1;strip 1;strip 1;lamp power 9;");
        check.due("25 * 4 is above 99", taller.high(4, 0), -1);
        taller = Check.told("strip 1;strip 1 tree 24;strip 1;strip 1;strip 1;lamp power 9;");
        check.due("24 * 4", taller.high(4, 0), 96);
    }

    private static void sets() {
        RopeMoon x = Check.told(FIVE);
        check.due("the tree's strip lights all", x.highFor(31, false), 6);
        check.due("from it", x.highFor(31, true), 1);
        check.due("one", x.highFor(16, false), 1);
        check.due("the least one", x.highFor(16, true), 3);
        check.due("empty", x.highFor(0, false), -3);
        check.due("others", x.highFor(32, false), -3);
        check.due("others", x.highFor(33, true), -3);
        check.due("others", x.highFor(-1, true), -3);
        check.due("without strips", new RopeMoon().highFor(1, true), -3);
        RopeMoon weak = Check.told("strip 1;strip 1;strip 1;strip 1;lamp power 1;");
        check.due("none", weak.highFor(3, false), -1);
        check.due("none", weak.highFor(3, true), -1);
    }

    private static void changes() {
        RopeMoon x = Check.told(FIVE);
        check.due("height(0)", x.height(0), -3);
        check.due("height(31)", x.height(31), -3);
        check.due("height(30)", x.height(30), 5);
        check.due("height(1)", x.height(1), 30);
        check.due("HEIGHT", x.count(3), 1);
        check.due("light", x.light(4, 2), 0);
        check.due("fell(0)", x.fell(0), -5);
        check.due("fell(5)", x.fell(5), -2);
        check.due("fell(-1)", x.fell(-1), -2);
        check.due("fell(3)", x.fell(3), 2);
        check.due("fell(3)", x.fell(3), -5);
        check.due("tree", x.strip(3, 2), 0);
        check.due("light", x.light(4, 2), 3);
    }
}
