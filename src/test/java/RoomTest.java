import com.sun.management.ThreadMXBean;
import java.lang.management.ManagementFactory;

/**
 * The room of one run, for its object and all its calls: 7.3 million fields and elements (here of four bytes
 * each) and 600,000 objects and arrays (of sixteen bytes or more). Rows are made with the object, none by a call.
 */
public final class RoomTest {
    private static final int CALLS = 512;
    private static final long ROOM = 4L * 7_300_000;
    private static final long OBJECTS = 600_000;
    private static final long LEAST_BYTES_OF_ONE = 16;
    private static final ThreadMXBean THREADS = (ThreadMXBean) ManagementFactory.getThreadMXBean();
    private static final Due due = new Due("RoomTest");

    /** One call of the face, with an argument that is drawn from the width it is tried at. */
    private interface Call {
        int on(ConceptTable x, int width);
    }

    private static final String[] NAMES = {
        "begin", "object", "remove", "common", "extent", "closure", "next", "concepts",
        "concept 0", "concept 2", "concept 3", "concept 4", "concept 5", "base", "rule 0", "rule 1", "rule 2",
        "follows", "holds", "needed", "neededObject", "frequent", "ask", "question", "yes", "no",
        "accepted 0", "accepted 1", "count 2", "count 3", "count 4", "begin, wrong", "object, wrong",
        "remove, wrong", "no, wrong"};
    private static final Call[] FACE = {
        (x, w) -> x.begin(w), (x, w) -> x.object(1), (x, w) -> x.remove(0), (x, w) -> x.common(1),
        (x, w) -> x.extent(1), (x, w) -> x.closure(1), (x, w) -> x.next(0), (x, w) -> x.concepts(),
        (x, w) -> x.concept(0, 0), (x, w) -> x.concept(1, 2), (x, w) -> x.concept(1, 3),
        (x, w) -> x.concept(1, 4), (x, w) -> x.concept(1, 5), (x, w) -> x.base(), (x, w) -> x.rule(0, 0),
        (x, w) -> x.rule(0, 1), (x, w) -> x.rule(0, 2), (x, w) -> x.follows(1, 9), (x, w) -> x.holds(1, 1),
        (x, w) -> x.needed(0), (x, w) -> x.neededObject(0), (x, w) -> x.frequent(1), (x, w) -> x.ask(),
        (x, w) -> x.question(), (x, w) -> x.yes(), (x, w) -> x.no(x.question()),
        (x, w) -> x.accepted(0, 0), (x, w) -> x.accepted(0, 1), (x, w) -> x.count(2), (x, w) -> x.count(3),
        (x, w) -> x.count(4), (x, w) -> x.begin(13), (x, w) -> x.object(-1), (x, w) -> x.remove(20),
        (x, w) -> x.no(-1)};
    private static final int STATES = 4;
    private static final int TRIES = 5;

    private static long dearest;
    private static String dearestName;

    public static void main(String[] args) {
        due.is("a name for each call", NAMES.length, FACE.length);
        long made = takenBy((x, w) -> new ConceptTable().count(0), 0, 1);
        due.holds("a new object takes " + made + " bytes, a hundredth of the room at most", made <= ROOM / 100);
        dearestCallTimesAll(made);
        wholeRuns();
        manyObjects();
        due.end();
    }

    private static void findDearest() {
        dearest = 0;
        dearestName = "none";
        for (int state = 0; state < STATES; state++) {
            for (int width = 1; width <= 12; width++) {
                for (int i = 0; i < FACE.length; i++) {
                    long taken = takenBy(FACE[i], state, width);
                    if (taken > dearest) {
                        dearest = taken;
                        dearestName = NAMES[i] + " in state " + state + " at width " + width;
                    }
                }
            }
        }
    }

    /** Java itself makes something now and then, so the least of some tries is what the call makes. */
    private static long takenBy(Call call, int state, int width) {
        long least = Long.MAX_VALUE;
        for (int i = 0; i < TRIES && least > 0; i++) {
            ConceptTable x = prepared(state, width);
            long before = allocated();
            call.on(x, width);
            least = Math.min(least, allocated() - before);
        }
        return least;
    }

    private static void dearestCallTimesAll(long made) {
        findDearest();
        long all = made + CALLS * dearest;
        String what = "the dearest call (" + dearestName + ", " + dearest + " bytes) times 512 ";
        due.holds(what + "stays within the room", all <= ROOM);
        due.holds(what + "makes few objects", all / LEAST_BYTES_OF_ONE <= OBJECTS);
        due.holds(what + "makes nothing", dearest == 0);
    }

    /** New; begun; full of objects; and with some objects in the midst of asking. */
    private static ConceptTable prepared(int state, int width) {
        ConceptTable x = new ConceptTable();
        if (state > 0) {
            x.begin(width);
        }
        int objects = state < 2 ? 0 : state == 2 ? 20 : 7;
        for (int i = 0; i < objects; i++) {
            x.object((i * 2477 + 1365) & ((1 << width) - 1));
        }
        if (state == 3) {
            x.ask();
            x.yes();
        }
        return x;
    }

    private static void wholeRuns() {
        due.is("bytes of a run through every width", takenBy((x, w) -> everyWidth(x), 0, 1), 0);
        due.is("bytes of a run of begin(12)", takenBy((x, w) -> widestAgain(x), 0, 1), 0);
    }

    /** After each change the calls that work most. */
    private static int everyWidth(ConceptTable x) {
        for (int i = 0; i < CALLS / 8 - 1; i++) {
            x.begin(1 + i % 12);
            x.object(i % 2);
            x.concept(0, 5);
            x.follows(0, 9);
            x.ask();
            x.no(0);
            x.yes();
            x.frequent(1);
        }
        return x.count(0);
    }

    private static int widestAgain(ConceptTable x) {
        for (int i = 0; i < CALLS - 1; i++) {
            x.begin(12);
        }
        return x.count(0);
    }

    /** Even a run that shares its 512 calls out among many objects fits. */
    private static void manyObjects() {
        long before = allocated();
        for (int i = 0; i < CALLS / 2; i++) {
            ConceptTable x = new ConceptTable();
            x.begin(12);
            x.base();
        }
        long taken = allocated() - before;
        due.holds("256 objects of two calls take " + taken + " bytes, the room at most", taken <= ROOM);
    }

    private static long allocated() {
        return THREADS.getThreadAllocatedBytes(Thread.currentThread().getId());
    }
}
