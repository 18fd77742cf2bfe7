import com.sun.management.ThreadMXBean;
import java.lang.management.ManagementFactory;

/** What calls make: a run has room for some 600,000 objects, and nothing made goes before its end. */
public final class RoomTest {
    private static final int CALLS = 512;
    private static final ThreadMXBean THREADS = (ThreadMXBean) ManagementFactory.getThreadMXBean();

    private static long made() {
        return THREADS.getThreadAllocatedBytes(Thread.currentThread().getId());
    }

    private static Desk full() {
        Desk d = new Desk();
        for (int table = 0; table < 4; table++) {
            d.base.make(0, table, 4);
        }
        for (int i = 0; i < 8; i++) {
            d.run(0, "insert T0 c0 = " + i);
            d.run(0, "insert T1 c3 = - " + i);
        }
        d.view(0, 0, "select * from T0 , T1", true);
        d.view(0, 1, "select * from V0", false);
        d.policy(0, 0, 0, "c0 in ( 1 , 2 , me )", 0, 0);
        d.base.secure(0, 0, 2);
        d.type(0, "select * from V0 , V1");
        d.type(1, "select c0 , ( select max ( c3 ) from T1 where c3 <= outer c0 ) from T0");
        d.type(2, "select distinct * from T0 , T1");
        return d;
    }

    private static void isSmall(String what, long bytes, long most) {
        Desk.is(what + " made " + bytes + " bytes: at most " + most, bytes <= most, true);
    }

    public static void main(String[] args) {
        made();
        long start = made();
        Desk d = new Desk();
        isSmall("a new object", made() - start, 600_000);
        d = full();
        d.base.digest();
        start = made();
        for (int i = 0; i < CALLS; i++) {
            d.base.digest();
        }
        isSmall("digests", made() - start, 100_000);
        start = made();
        for (int i = 0; i < CALLS; i++) {
            d.base.isSound();
            d.base.run(0, 0);
            d.base.areAlike(0, 1, 0, 1);
            d.base.begin(1);
            d.base.savepoint(1);
            d.base.backTo(1, 0);
            d.base.commit(1);
            d.base.sample(3, 11, 1, 2);
        }
        isSmall("eight calls that tell no text", made() - start, 100_000);
        start = made();
        for (int i = 0; i < CALLS; i++) {
            d.base.answer(0);
        }
        isSmall("answers", made() - start, 4_000_000);
        start = made();
        for (int i = 0; i < CALLS; i++) {
            d.base.policy(0, 0, 1, 1, 0, 0);
            d.base.drop(0, 7);
            d.base.view(0, 3, 2, true);
        }
        isSmall("views", made() - start, 4_000_000);
        Desk.end("RoomTest");
    }
}
