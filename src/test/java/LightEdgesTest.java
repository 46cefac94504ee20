/** The edges that the document names for LIGHT and promises 7 to 13, a sentence a method. */
public final class LightEdgesTest {
    private static final Check check = new Check("LightEdgesTest");
    private static final int[] NO_STRIP = {-1, 4, 16, 32, Integer.MIN_VALUE, Integer.MAX_VALUE};

    public static void main(String[] args) {
        fadesToNothing();
        fadeNothingAndNine();
        onlyTreesBetweenShade();
        justHighEnough();
        stepsFromTreeToLitStrip();
        treeZeroAndThirty();
        oneTreeIsEnough();
        lightRefusals();
        litAndShaded();
        highLeast();
        highLargest();
        highByNoHeight();
        highRefusals();
        highForLeast();
        highForNone();
        highForRefusals();
        heightBounds();
        fellBounds();
        check.finish();
    }

    private static String strips(int n) {
        return "strip 9;".repeat(n);
    }

    /** Sixteen strips, of which one has a tree. */
    private static RopeMoon oneTree(int at, int tree, String lamp) {
        return Check.told(strips(at) + "strip 9 tree " + tree + ";" + strips(15 - at) + lamp);
    }

    private static void fadesToNothing() {
        RopeMoon x = Check.told(strips(16) + "lamp power 6 fade 2;");
        int[] due = {6, 4, 2, 0, 0, 0};
        for (int steps = 0; steps < due.length; steps++) {
            check.due("up " + steps, x.light(0, steps), due[steps]);
            check.due("down " + steps, x.light(15, 15 - steps), due[steps]);
        }
        check.due("not below 0", x.light(0, 15), 0);
        x = Check.told(strips(16) + "lamp power 5 fade 2;");
        check.due("one is left", x.light(3, 5), 1);
        check.due("not below 0", x.light(3, 6), 0);
        check.due("no power", Check.told("strip 1;lamp power 0 fade 0;").light(0, 0), 0);
        check.due("power 20", Check.told("strip 1;lamp power 20;").light(0, 0), 20);
    }

    private static void fadeNothingAndNine() {
        RopeMoon x = Check.told(strips(16) + "lamp power 1 fade 0;");
        check.due("over all", x.light(0, 15), 1);
        check.due("over all", x.light(15, 0), 1);
        x = Check.told(strips(16) + "lamp power 20 fade 9;");
        check.due("one step", x.light(8, 7), 11);
        check.due("two steps", x.light(8, 10), 2);
        check.due("three steps", x.light(8, 11), 0);
    }

    private static void onlyTreesBetweenShade() {
        RopeMoon x = Check.told("strip 9 tree 30;strip 9 tree 30;strip 9 tree 30;lamp height 1 power 9;");
        for (int over = 0; over < 3; over++) {
            for (int s = 0; s < 3; s++) {
                int steps = Math.abs(over - s);
                check.due("light " + over + " " + s, x.light(over, s), steps == 2 ? 0 : 9 - steps);
            }
        }
        x = Check.told("strip 9 tree 30;strip 9;strip 9;strip 9 tree 30;lamp height 1 power 9;");
        check.due("trees at both ends", x.light(0, 3), 6);
        check.due("a tree behind the lamp", x.light(1, 2), 8);
        check.due("a tree behind the strip", x.light(2, 1), 8);
    }

    private static void justHighEnough() {
        RopeMoon x = oneTree(1, 3, "lamp height 6 power 20;");
        check.due("3 * 2 is not more than 6 * 1", x.light(2, 0), 18);
        check.due("3 * 2 is not more than 6 * 1", x.light(0, 2), 18);
        x.height(5);
        check.due("3 * 2 is more than 5 * 1", x.light(2, 0), 0);
        check.due("3 * 2 is more than 5 * 1", x.light(0, 2), 0);
        x = oneTree(3, 10, "lamp height 15 power 20;");
        check.due("10 * 3 is not more than 15 * 2", x.light(4, 1), 17);
        x.height(14);
        check.due("10 * 3 is more than 14 * 2", x.light(4, 1), 0);
    }

    private static void stepsFromTreeToLitStrip() {
        RopeMoon x = oneTree(1, 6, "lamp height 8 power 20;");
        check.due("6 * 4 is not more than 8 * 3: near the lamp", x.light(0, 4), 16);
        check.due("6 * 4 is more than 8 * 1: near the strip", x.light(4, 0), 0);
        x = oneTree(14, 6, "lamp height 8 power 20;");
        check.due("near the lamp", x.light(15, 11), 16);
        check.due("near the strip", x.light(11, 15), 0);
    }

    private static void treeZeroAndThirty() {
        RopeMoon x = oneTree(1, 0, "lamp height 1 power 20;");
        check.due("TREE 0 shades nothing", x.light(15, 0), 5);
        x = oneTree(1, 1, "lamp height 14 power 20;");
        check.due("1 * 15 is more than 14", x.light(15, 0), 0);
        x.height(15);
        check.due("1 * 15 is not more than 15", x.light(15, 0), 5);
        x = oneTree(14, 30, "lamp height 30 power 20;");
        check.due("30 * 15 is more than 30 * 14", x.light(0, 15), 0);
        check.due("30 * 15 is more than 30 * 14", x.light(15, 0), 0);
        check.due("beside it", x.light(15, 14), 19);
    }

    private static void oneTreeIsEnough() {
        RopeMoon x = Check.told("strip 9;strip 9 tree 1;strip 9 tree 9;strip 9 tree 1;strip 9;lamp height 9 power 9;");
        check.due("the middle one", x.light(0, 4), 0);
        x.fell(2);
        check.due("1 * 4 is not more than 9", x.light(0, 4), 5);
        x.height(4);
        check.due("1 * 4 is not more than 4 * 1", x.light(0, 4), 5);
        x.height(3);
        check.due("the one by the strip", x.light(0, 4), 0);
        check.due("the one by the strip", x.light(4, 0), 0);
        x.fell(1);
        check.due("the one that is left is near the lamp", x.light(4, 0), 5);
        check.due("the one that is left is near the strip", x.light(0, 4), 0);
    }

    private static void lightRefusals() {
        for (int no : NO_STRIP) {
            Edge.refused(check, "light(" + no + ", 0)", Edge::busy, -2, x -> x.light(no, 0));
            Edge.refused(check, "light(0, " + no + ")", Edge::busy, -2, x -> x.light(0, no));
            Edge.refused(check, "light(" + no + ", same)", Edge::busy, -2, x -> x.light(no, no));
            Edge.refused(check, "lit(" + no + ")", Edge::busy, -2, x -> x.lit(no));
            Edge.refused(check, "shaded(" + no + ")", Edge::busy, -2, x -> x.shaded(no));
        }
        RopeMoon x = Check.told(strips(16));
        check.due("light(15, 15)", x.light(15, 15), 6);
        check.due("light(15, 16)", x.light(15, 16), -2);
        check.due("light(16, 15)", x.light(16, 15), -2);
    }

    private static void litAndShaded() {
        RopeMoon x = oneTree(8, 30, "lamp height 1 power 4;");
        check.due("lit below the tree", x.lit(7), 0b1_1111_0000);
        check.due("shaded behind it", x.shaded(7), 1 << 9 | 1 << 10);
        check.due("lit from the tree's strip", x.lit(8), 0b1111_1110_0000);
        check.due("shaded from there", x.shaded(8), 0);
        check.due("lit from the first", x.lit(0), 0b1111);
        check.due("too far is not shaded", x.shaded(0), 0);
        check.due("lit from the last", x.lit(15), 0xF000);
        x = Check.told(strips(16) + "lamp power 1 fade 0;");
        check.due("all", x.lit(3), 0xFFFF);
        x = Check.told(strips(2) + "lamp power 0 fade 0;");
        check.due("none", x.lit(1), 0);
        check.due("none is near enough", x.shaded(1), 0);
        x = Check.told("strip 1;strip 1 tree 9;strip 1;lamp height 1 power 2 fade 1;");
        check.due("just too far", x.shaded(0), 0);
        x = Check.told("strip 1;strip 1 tree 9;strip 1;lamp height 1 power 3 fade 1;");
        check.due("just near enough", x.shaded(0), 4);
        x = Check.told("strip 1 tree 30;strip 1;strip 1;strip 1 tree 30;lamp height 1 power 9;");
        for (int over = 0; over < 4; over++) {
            check.due("behind the trees at both ends there is nothing", x.shaded(over), 0);
            check.due("all is lit between the trees at both ends", x.lit(over), 15);
        }
        check.due("the lamp's own oil aside", Check.told("strip 1;oil 0;").lit(0), 1);
    }

    private static void highLeast() {
        RopeMoon x = oneTree(1, 1, "lamp height 30 power 20;");
        check.due("the same strip", x.high(5, 5), 1);
        check.due("no tree between", x.high(15, 2), 1);
        check.due("1 * 2 / 1", x.high(0, 2), 2);
        check.due("1 * 15 / 1", x.high(15, 0), 15);
        check.due("1 * 15 / 14 goes up", x.high(0, 15), 2);
        check.due("the HEIGHT it has does not count", x.height(1), 30);
        check.due("1 * 15 / 1", x.high(15, 0), 15);
        check.due("HEIGHT is as it was", x.count(3), 1);
        x = oneTree(3, 3, "lamp power 20;");
        check.due("3 * 4 / 3 is whole", x.high(2, 6), 4);
        check.due("3 * 5 / 3 is whole", x.high(1, 6), 5);
        check.due("3 * 5 / 2 goes up", x.high(6, 1), 8);
    }

    private static void highLargest() {
        RopeMoon x = oneTree(1, 11, "lamp power 20;");
        check.due("11 * 9 is just 99", x.high(9, 0), 99);
        check.due("11 * 10 is above", x.high(10, 0), -1);
        x = oneTree(1, 10, "lamp power 20;");
        check.due("10 * 10 is just above", x.high(10, 0), -1);
        check.due("10 * 9", x.high(9, 0), 90);
        x = oneTree(1, 30, "lamp power 20;");
        check.due("30 * 3", x.high(3, 0), 90);
        check.due("30 * 4", x.high(4, 0), -1);
        check.due("30 * 4 / 3", x.high(0, 4), 40);
    }

    private static void highByNoHeight() {
        RopeMoon x = Check.told(strips(8) + "lamp power 3;");
        check.due("two steps", x.high(0, 2), 1);
        check.due("three steps", x.high(0, 3), -1);
        check.due("three steps", x.high(7, 4), -1);
        x = Check.told(strips(2) + "lamp power 0;");
        check.due("no power", x.high(0, 0), -1);
    }

    private static void highRefusals() {
        for (int no : NO_STRIP) {
            Edge.refused(check, "high(" + no + ", 0)", Edge::busy, -2, x -> x.high(no, 0));
            Edge.refused(check, "high(0, " + no + ")", Edge::busy, -2, x -> x.high(0, no));
        }
    }

    private static void highForLeast() {
        RopeMoon x = oneTree(8, 10, "lamp power 20;");
        check.due("beside both from over the tree", x.highFor(1 << 7 | 1 << 9, false), 1);
        check.due("over the tree", x.highFor(1 << 7 | 1 << 9, true), 8);
        check.due("all", x.highFor(0xFFFF, false), 1);
        check.due("all from over the tree", x.highFor(0xFFFF, true), 8);
        check.due("one below: from the first", x.highFor(1, true), 0);
        check.due("one above: from over the tree", x.highFor(1 << 15, true), 8);
        check.due("the last one alone", x.highFor(1 << 15, false), 1);
        x = Check.told("strip 1 tree 9;strip 1 tree 2;strip 1 tree 2;strip 1 tree 9;lamp power 9;");
        check.due("from inside: 2 * 2", x.highFor(0b1001, false), 4);
        check.due("the least of both", x.highFor(0b1001, true), 1);
        check.due("HEIGHT is as it was", x.count(3), 6);
    }

    private static void highForNone() {
        RopeMoon x = Check.told(strips(8) + "lamp power 3;");
        check.due("four steps from the middle", x.highFor(0b10001, false), 1);
        check.due("four steps from the middle", x.highFor(0b10001, true), 2);
        check.due("five steps", x.highFor(0b100001, false), -1);
        check.due("five steps", x.highFor(0b100001, true), -1);
        x = Check.told(strips(10) + "lamp power 20 fade 2;");
        check.due("nine steps", x.highFor(0b10_0000_0001, true), 0);
        // From strip o the trees ask for 11 * o and for 16 * (15 - o).
        x = Check.told("strip 1;strip 1 tree 11;" + strips(12) + "strip 1 tree 16;strip 1;lamp power 1 fade 0;");
        check.due("just 99", x.highFor(0x8001, false), 99);
        check.due("from strip 9", x.highFor(0x8001, true), 9);
        x = Check.told("strip 1;strip 1 tree 12;" + strips(12) + "strip 1 tree 16;strip 1;lamp power 1 fade 0;");
        check.due("108 at least", x.highFor(0x8001, false), -1);
        check.due("from none", x.highFor(0x8001, true), -1);
    }

    private static void highForRefusals() {
        for (int set : new int[] {0, 16, 17, 1 << 16, -1, Integer.MIN_VALUE, Integer.MAX_VALUE}) {
            Edge.refused(check, "highFor(" + set + ")", Edge::busy, -3, x -> x.highFor(set, false));
            Edge.refused(check, "highFor(" + set + ", over)", Edge::busy, -3, x -> x.highFor(set, true));
            Edge.refused(check, "highFor(" + set + ") without strips", Edge::bare, -3, x -> x.highFor(set, true));
        }
        RopeMoon x = Check.told(strips(16) + "lamp power 1;");
        check.due("all sixteen", x.highFor(0xFFFF, false), -1);
        check.due("a seventeenth", x.highFor(0x10000, false), -3);
        check.due("the sixteenth", x.highFor(0x8000, true), 15);
    }

    private static void heightBounds() {
        for (int h : new int[] {0, 31, -1, 99, Integer.MIN_VALUE, Integer.MAX_VALUE}) {
            Edge.refused(check, "height(" + h + ")", Edge::busy, -3, x -> x.height(h));
            Edge.refused(check, "height(" + h + ") without strips", Edge::bare, -3, x -> x.height(h));
        }
        RopeMoon x = Edge.busy();
        check.due("height(1)", x.height(1), 5);
        check.due("HEIGHT", x.count(3), 1);
        check.due("height(30)", x.height(30), 1);
        check.due("HEIGHT", x.count(3), 30);
        check.due("the same again", x.height(30), 30);
        check.due("without strips", new RopeMoon().height(7), 6);
    }

    private static void fellBounds() {
        for (int no : NO_STRIP) {
            Edge.refused(check, "fell(" + no + ")", Edge::busy, -2, x -> x.fell(no));
        }
        Edge.refused(check, "fell(0) without strips", Edge::bare, -2, x -> x.fell(0));
        Edge.refused(check, "fell(0) without a tree", Edge::busy, -5, x -> x.fell(0));
        RopeMoon x = Edge.busy();
        check.due("fell(1)", x.fell(1), 3);
        check.due("fell(1) again", x.fell(1), -5);
        check.due("fell(3)", x.fell(3), 30);
        check.due("TREE", x.strip(3, 2), 0);
        check.due("CROP stays", x.strip(1, 0), 9);
        check.due("the least tree", Check.told("strip 1 tree 1;").fell(0), 1);
    }
}
