import java.util.ArrayList;
import java.util.List;

/** All that an object tells, asked in one order: two objects that answer alike stand alike. */
final class Probe {
    private Probe() { }

    /** The plain as it stands; asking changes nothing. */
    static List<Long> plainOf(RopeMoon x) {
        List<Long> all = new ArrayList<>();
        for (int what = 0; what <= 12; what++) {
            // The tape is no part of the plain.
            all.add(what == 11 ? 0L : x.count(what));
        }
        for (int s = 0; s < x.count(0); s++) {
            for (int what = 0; what <= 5; what++) {
                all.add((long) x.strip(s, what));
            }
        }
        for (int f = 0; f <= 5; f++) {
            for (int what = 0; what <= 3; what++) {
                all.add((long) x.farm(f, what));
            }
        }
        all.add((long) x.dark());
        return all;
    }

    /** The rows as moves, as the other lamp, as stubble; then how long they are and of what sort. */
    static List<Long> rowsOf(RopeMoon x) {
        List<Long> all = new ArrayList<>();
        for (int row = 0; row < 4; row++) {
            for (int what = 0; what <= 3; what++) {
                all.add((long) x.judge(row, what));
                all.add((long) x.meets(row, what));
            }
            all.add((long) x.stubble(row, 1));
            all.add((long) x.sure(row, 2));
        }
        for (int row = 0; row < 4; row++) {
            for (int i = 0; i <= 40 && x.write(row, i, 0) == 0; i++) {
                all.add(x.write(row, i, 0x1234567890ABCDEFL));
            }
        }
        return all;
    }

    static List<Long> faultOf(RopeMoon x) {
        return List.of((long) x.fault(0), (long) x.fault(1));
    }

    /** Everything; it is used up by that, as images are restored and the tape is read. */
    static List<Long> everythingOf(RopeMoon x) {
        List<Long> all = new ArrayList<>(plainOf(x));
        all.addAll(faultOf(x));
        all.addAll(rowsOf(x));
        for (int i = 0; i < 2; i++) {
            all.add((long) x.restore(i));
            all.addAll(plainOf(x));
        }
        all.add((long) x.count(11));
        all.add((long) x.plain(x.count(11)));
        all.addAll(faultOf(x));
        all.addAll(plainOf(x));
        return all;
    }
}
