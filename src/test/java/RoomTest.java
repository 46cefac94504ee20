import com.sun.management.ThreadMXBean;
import java.lang.management.ManagementFactory;

/** All calls of a run live in one room: an object is small, and no call makes anything. */
public final class RoomTest {
    private static final Check check = new Check("RoomTest");
    private static final int OBJECT_BYTES = 150_000;
    // Less than one small array for each call of a round; the machine itself may make a little.
    private static final int CALL_BYTES = 4_096;

    public static void main(String[] args) {
        ThreadMXBean threads = (ThreadMXBean) ManagementFactory.getThreadMXBean();
        long self = Thread.currentThread().getId();
        // The first round loads classes and is not counted.
        round(new RopeMoon());
        long before = threads.getThreadAllocatedBytes(self);
        RopeMoon x = new RopeMoon();
        long made = threads.getThreadAllocatedBytes(self) - before;
        before = threads.getThreadAllocatedBytes(self);
        int answers = round(x);
        long called = threads.getThreadAllocatedBytes(self) - before;
        check.due("answers above 0 in a round", answers > 0 ? 1 : 0, 1);
        check.due("an object of " + made + " bytes is small", made <= OBJECT_BYTES ? 1 : 0, 1);
        check.due("calls made " + called + " bytes", called <= CALL_BYTES ? 1 : 0, 1);
        System.out.println("RoomTest: an object has " + made + " bytes, its calls made " + called);
        check.finish();
    }

    private static void text(RopeMoon x) {
        // "strip 99 tree 9    ;", sixteen times, then "lamp at 7 power 20 ;".
        for (int i = 0; i < 16; i++) {
            x.feed(0x73747269, 0x70203939, 0x20747265, 0x65203920, 0x2020203b);
        }
        x.feed(0x6c616d70, 0x20617420, 0x3720706f, 0x77657220, 0x3230203b);
        x.plain(340);
    }

    private static int round(RopeMoon x) {
        text(x);
        int sum = 0;
        for (int row = 0; row < 4; row++) {
            sum += x.numbers(row, row, 40 - 8 * row) + (int) x.write(row, 3, 5);
        }
        x.numbers(3, 3, 16);
        sum += x.image(0) + x.image(1) + x.copy(3) + x.judge(0, 2) + x.meets(0, 1) + x.delay(0, 1);
        for (int m = 1; m <= 8; m++) {
            sum += x.most(m, 0) + x.dearest(m, 10) + x.fairest(m, 11) + x.alone(0, m, 0) + x.pays(0, m);
            sum += x.shifted(m, 0) + x.felled(m, 0) + x.ends(m) + x.stubble(3, m) + x.sure(3, m);
            x.minute(m % 3);
        }
        sum += x.soonest(500) + x.dark() + x.halts(65535) + x.tour(65535) + x.highFor(65535, true) + x.high(0, 15);
        sum += x.night(7, 60) + x.perform(0) + x.fill(99) + x.walk(0, 1, 1) + x.fell(3) + x.height(9);
        sum += x.light(0, 1) + x.lit(0) + x.shaded(0) + x.strip(0, 5) + x.farm(0, 1) + x.count(9) + x.fault(0);
        return sum + x.restore(0) + x.restore(1);
    }
}
