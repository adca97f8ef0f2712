import com.sun.management.ThreadMXBean;
import java.lang.management.ManagementFactory;

/** All calls of a run live in one room: a call makes nothing, and an object little. */
public final class RoomTest {
    private static final String HOUSE = "thing wall 3 2;thing box 4 1 behind wall;thing tv 2 0 behind box;fault hung box 30 6 3;"
            + "fault cord box 0 3 5;cures hung off 12;cures hung pin 6;cures cord cable 12;";

    public static void main(String[] args) {
        Check c = new Check();
        ThreadMXBean bean = (ThreadMXBean) ManagementFactory.getThreadMXBean();
        long id = Thread.currentThread().getId();
        OffThenOn x = Check.with(HOUSE);
        all(x);
        long before = bean.getThreadAllocatedBytes(id);
        OffThenOn y = new OffThenOn();
        long made = bean.getThreadAllocatedBytes(id) - before;
        c.is("bytes of an object are few: " + made, made < 40000, true);
        before = bean.getThreadAllocatedBytes(id);
        for (int i = 0; i < 500; i++) {
            all(x);
        }
        made = bean.getThreadAllocatedBytes(id) - before;
        c.is("bytes of 500 rounds are few: " + made, made < 4000, true);
        c.is("y", y.count(0), 0);
        c.close();
    }

    /** No call here throws: an exception is the one thing that a call may make. */
    private static int all(OffThenOn x) {
        int sum = x.off(1) + x.minutes(1) + x.on(1, 5) + x.pin(0, 3) + x.cable(0, 3) + x.strike(0) + x.strike(1);
        sum += x.drawn(60, 1) + x.odds(1, 3, 4) + x.worksIn(2) + x.plan(1, 3, 0) + x.planAt(0) + x.ready(2) + x.starts(2);
        sum += x.alike(0) + x.kinds() + x.look(3) + x.left() + x.heals(0) + x.tell(0) + x.byteAt(0) + x.now(1) + x.thing(0, 7);
        x.feed(0x01030000, 0, 0, 0, 0);
        x.end(2);
        sum += x.what() + x.likely(0, 0);
        x.feed(0x01030002, 0x01020005, 0, 0, 0);
        x.end(8);
        sum += x.helped() + x.lots();
        x.feed(0x12120000, 0, 0, 0, 0);
        x.end(2);
        sum += x.fits(0);
        x.feed(0x6d696e75, 0x74652033, 0x3b6d696e, 0x75746520, 0x333b2020);
        sum += x.log(1) + x.logged(0);
        x.feed(0x6e6f7420, 0x7570206f, 0x7220776f, 0x726b7320, 0x20202020);
        sum += x.sentence() + x.said(-1) + x.undo();
        x.image(0);
        x.image(1);
        x.restore(0);
        return sum;
    }
}
