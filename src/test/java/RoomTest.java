import com.sun.management.ThreadMXBean;
import java.lang.management.ManagementFactory;

/** The room of one run is small: 7.3 million elements, here of four bytes each, for all its calls. */
public final class RoomTest {
    private static final long ROOM = 4L * 7_300_000;
    private static final ThreadMXBean THREADS = (ThreadMXBean) ManagementFactory.getThreadMXBean();
    private static final Due due = new Due("RoomTest");

    public static void main(String[] args) {
        oneRun();
        long before = allocated();
        oneRun();
        long run = allocated() - before;
        due.holds("a run of 512 calls takes " + run + " bytes, a hundredth of the room at most", run <= ROOM / 100);
        before = allocated();
        manyObjects();
        long many = allocated() - before;
        due.holds("170 objects of 3 calls take " + many + " bytes, the room at most", many <= ROOM);
        due.end();
    }

    private static long allocated() {
        return THREADS.getThreadAllocatedBytes(Thread.currentThread().getId());
    }

    /** Every width in turn, and after each change the calls that work most. */
    private static void oneRun() {
        ConceptTable x = new ConceptTable();
        for (int i = 0; i < 64; i++) {
            x.begin(1 + i % 12);
            x.object(i % 2);
            x.concept(0, 5);
            x.follows(0, 9);
            x.ask();
            x.no(0);
            x.yes();
            x.frequent(1);
        }
    }

    private static void manyObjects() {
        for (int i = 0; i < 170; i++) {
            ConceptTable x = new ConceptTable();
            x.begin(12);
            x.base();
        }
    }
}
