import java.util.List;

/** What tests of edges share: objects in some states, and refused calls beside a twin that was not asked. */
final class Edge {
    /** A call whose answer is looked at. */
    interface Call {
        long on(RopeMoon x);
    }

    /** Makes an object; twice the same one. */
    interface Setup {
        RopeMoon make();
    }

    static final int[] NO_ROW = {-1, 4, Integer.MIN_VALUE, Integer.MAX_VALUE};

    private Edge() { }

    /** The call answers by a code, and all is as on a twin that was not asked. */
    static void refused(Check check, String what, Setup setup, long code, Call call) {
        RopeMoon asked = setup.make();
        check.due(what, call.on(asked), code);
        alike(check, what + " changes nothing", Probe.everythingOf(asked), Probe.everythingOf(setup.make()));
    }

    static void alike(Check check, String what, List<Long> got, List<Long> want) {
        check.due(what + ": how many answers", got.size(), want.size());
        for (int i = 0; i < Math.min(got.size(), want.size()); i++) {
            if (!got.get(i).equals(want.get(i))) {
                check.due(what + ": answer " + i, got.get(i), want.get(i));
                return;
            }
        }
    }

    static RopeMoon bare() {
        return new RopeMoon();
    }

    /** Four strips two minutes on, a fault, rows 0 to 2, image 0; nothing on the tape. */
    static RopeMoon quiet() {
        RopeMoon x = Check.told("strip 9 reapers 5 farm 1;strip 20 reapers 6 tree 3;strip 8 farm 2;"
            + "strip 3 reapers 9 tree 30 farm 1;lamp at 1 height 5 power 7 fade 2;oil 20;bid 1 7;bid 2 3;"
            + "moths 50;cross 2;");
        x.minute(0);
        x.image(0);
        x.minute(2);
        Check.row(x, 0, 0, 0, 1, 0, 2, 3);
        Check.row(x, 1, 1, 1, 0, 0);
        x.numbers(2, 2, 4);
        x.copy(2);
        Check.tell(x, "oil ?");
        return x;
    }

    /** The same with a text on the tape. */
    static RopeMoon busy() {
        RopeMoon x = quiet();
        Check.feed(x, "strip 3;oil 7;lamp power 2;bid 0 9;     ");
        return x;
    }

    /** The same as another one, but for row 0: so many numbers, all 0. */
    static Setup withRow(Setup setup, int n) {
        return () -> {
            RopeMoon x = setup.make();
            x.numbers(0, 0, n);
            return x;
        };
    }

    /** Three strips, and the oil has just burnt. */
    static RopeMoon dry() {
        RopeMoon x = Check.told("strip 9;strip 8;strip 7 tree 3;lamp at 1;oil 1;");
        x.minute(0);
        Check.row(x, 0, 0, 0);
        return x;
    }

    /** One strip of 99 sheaves and two reapers, in some minute, behind nights full of moths. */
    static RopeMoon late(int minute, int oilLeft) {
        RopeMoon x = Check.told("strip 99;moths 100;oil 999;");
        int oil = 999;
        int toFill = minute + oilLeft - oil;
        for (int now = 0; now < minute; now += 60) {
            if (oil <= 900 && toFill > 0) {
                int filled = Math.min(99, toFill);
                x.fill(filled);
                oil += filled;
                toFill -= filled;
            }
            int minutes = Math.min(60, minute - now);
            x.night(7, minutes);
            oil -= minutes;
        }
        return x;
    }
}
