import java.util.ArrayList;
import java.util.List;

/** All that an object can tell of itself. */
final class Whole {
    private static final int MOST_MARKS = 3;

    private Whole() {
    }

    /** Tells even what is told only by changing it (tape, EVENINGS, MARKS): the object is of no use then. */
    static List<Long> told(TalkChutes x) {
        List<Long> all = stays(x);
        long taped = x.feed(0x3b3b3b3b, 0, 0, 0, 0);
        all.add(taped);
        for (int i = 0; i <= MOST_MARKS; i++) {
            all.add((long) x.mark());
        }
        for (int i = 0; i < MOST_MARKS; i++) {
            all.add((long) x.live(7));
            all.add((long) x.status());
            all.addAll(stays(x));
            all.add((long) x.back());
            all.addAll(stays(x));
        }
        all.add((long) x.table((int) Math.max(0, taped)));
        all.add((long) x.fault(0));
        all.add((long) x.fault(1));
        return all;
    }

    /** What can be told without a change, but of STATUS. */
    static List<Long> stays(TalkChutes x) {
        List<Long> all = new ArrayList<>();
        all.add(x.top());
        all.add(x.bottom());
        all.add((long) x.fault(0));
        all.add((long) x.fault(1));
        for (int i = 0; i < 10; i++) {
            all.add((long) x.many(i));
            all.add((long) x.lived(i));
            for (int what = 0; what < 5; what++) {
                all.add((long) x.topic(i, what));
                all.add((long) x.claim(i, what));
                all.add((long) x.talker(i, what));
                all.add((long) x.feud(i, what));
            }
        }
        for (int tray = 0; tray < 4; tray++) {
            for (int place = 0; place < 61; place++) {
                all.add(x.read(tray, place));
                all.add((long) x.status());
            }
            all.add(x.pour(tray, 0, 0, 0, 0) ? 1L : 0L);
            all.add((long) x.status());
        }
        return all;
    }
}
