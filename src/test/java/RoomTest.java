import com.sun.management.ThreadMXBean;
import java.lang.management.ManagementFactory;

/** All calls of a run live in one room: a call makes nothing, and an object is small. */
public final class RoomTest {
    private static final Check check = new Check("RoomTest");
    private static final int NONE = DinnerRounds.NONE;

    public static void main(String[] args) {
        ThreadMXBean threads = (ThreadMXBean) ManagementFactory.getThreadMXBean();
        calls(new DinnerRounds(8));
        calls(new DinnerRounds(12));
        for (int n = 4; n <= 12; n++) {
            DinnerRounds x = new DinnerRounds(n);
            long before = threads.getCurrentThreadAllocatedBytes();
            calls(x);
            long made = threads.getCurrentThreadAllocatedBytes() - before;
            check.due("calls with " + n + " guests make " + made + " bytes", made < 1000, true);
        }
        long before = threads.getCurrentThreadAllocatedBytes();
        DinnerRounds x = new DinnerRounds(12);
        long made = threads.getCurrentThreadAllocatedBytes() - before;
        check.due("an object of " + x.about(1) + " has " + made + " bytes", made < 60000, true);
        check.close();
    }

    private static void calls(DinnerRounds x) {
        for (int i = 0; i < 4; i++) {
            x.feed(0x62617220, 0x73697a65, 0x3e322061, 0x6e642061, 0x6761696e);
            x.feed(0x3e303b20, 0x20202020, 0x20202020, 0x20202020, 0x20202020);
            x.rule();
            x.guest(i, 1, 30 + i);
            x.quarrel(i, i + 1, true);
            x.complete(0, 2 + i, 1, 3000);
            x.by(0, i);
            x.copy(0, 1);
            x.complete(1, 3, 2, 20000);
            x.part(0, 20000);
            x.sit(2, 2, i);
            x.sit(2, 3, i + 4);
            x.renamed(0, NONE);
            x.renamed(0, 1);
            x.like(0, 1);
            x.cheapest(0, 2, 0);
            x.cheapest(0, 3, NONE);
            x.best(2, i, 1, 0);
            x.change(2, i, 0, 3);
            x.knows(2, 0, 0, 11);
            x.all(2, 0, 0);
            x.ill(2, 0, 0, 3, 7);
            x.days(3);
            x.read(0, 3, true);
            x.begun(2, 5, NONE);
            x.question(2, 0);
            x.table(0, NONE, 7);
            x.clear(0, 0);
            x.judged(0, 3, 1);
            x.miss(0, 1);
            x.counts(9, 3, 1, 0);
            x.image();
            x.back();
            x.about(30);
        }
    }
}
