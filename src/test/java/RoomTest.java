import com.sun.management.ThreadMXBean;
import java.lang.management.ManagementFactory;

/** All calls of a run live in one room that is never cleared: a call makes nothing, a new object little. */
public final class RoomTest {
    private static final long MOST_FOR_AN_OBJECT = 16000;
    /** A little may be made by the machine itself while it looks on. */
    private static final long MOST_FOR_ALL_CALLS = 8000;

    public static void main(String[] args) {
        ThreadMXBean bean = (ThreadMXBean) ManagementFactory.getThreadMXBean();
        long self = Thread.currentThread().getId();
        calls(new DustLand());
        long before = bean.getThreadAllocatedBytes(self);
        DustLand x = new DustLand();
        long made = bean.getThreadAllocatedBytes(self) - before;
        before = bean.getThreadAllocatedBytes(self);
        calls(x);
        long called = bean.getThreadAllocatedBytes(self) - before;
        System.out.println("RoomTest: " + made + " bytes for an object, " + called + " for its calls");
        if (made > MOST_FOR_AN_OBJECT || called > MOST_FOR_ALL_CALLS) System.exit(1);
    }

    private static void calls(DustLand x) {
        for (int t = 0; t < 9; t++) x.tenant(t % 7, t);
        x.sheet(0, 16, 40);
        x.sheet(1, 16, 40);
        for (int i = 0; i < 10; i++) {
            x.feed('f' << 24 | 'a' << 16 | 'l' << 8 | 'l', 4);
            x.feed(' ' << 8 | '7', 2);
            x.text();
            x.text();
            x.image();
            x.go(40);
            x.sneezes(20);
            forecasts(x);
            x.load(0);
            x.judge(0);
            x.copy(0, 0, 1, 0, 40);
            x.write(0, i, -1);
            x.odds(14, 1);
            x.now(4);
            x.undo();
            x.status(-1);
        }
    }

    private static void forecasts(DustLand x) {
        x.ahead(0, 60);
        x.goods(0, 60);
        x.holder(0, 60);
        x.when(0, 11);
        x.clash();
        x.rich(0, 99999);
        x.seat(0, 40);
        x.kindFor(0, 40);
        x.draught(0, 40);
        x.fallFor(99999, 40);
        x.swapFor(0, 40);
        x.brooms(x.now(1), 20);
        x.without(40);
        x.fits(0, 0);
        x.kinds(0, 0);
    }
}
