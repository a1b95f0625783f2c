import com.sun.management.ThreadMXBean;
import java.lang.management.ManagementFactory;

/** All calls of a run live in one room, so no call makes an object, and an object is small. */
public final class RoomTest {
    private static final int OBJECTS = 50;
    private static final int MOST_BYTES_OF_AN_OBJECT = 8192;

    private static final ThreadMXBean THREADS = (ThreadMXBean) ManagementFactory.getThreadMXBean();

    public static void main(String[] args) {
        // What the virtual machine makes for itself at first is no object of the class.
        runAll(new CulpritFinder());
        allocated();

        CulpritFinder[] objects = new CulpritFinder[OBJECTS];
        long before = allocated();
        for (int i = 0; i < OBJECTS; i++) {
            objects[i] = new CulpritFinder();
        }
        long made = (allocated() - before) / OBJECTS;
        Dues.due("a new object has few bytes (" + made + ")", made <= MOST_BYTES_OF_AN_OBJECT, true);

        before = allocated();
        for (int i = 0; i < OBJECTS; i++) {
            runAll(objects[i]);
        }
        made = (allocated() - before) / OBJECTS;
        // The least object has 16 bytes; asking how many there are may itself make a few of them.
        Dues.due("the calls of a run make no object (" + made + ")", made < 16, true);
        Dues.finishTests();
    }

    private static long allocated() {
        return THREADS.getCurrentThreadAllocatedBytes();
    }

    /** Every call of the face, with a search that comes to reducing 8 changes, of which the outermost two count. */
    private static void runAll(CulpritFinder x) {
        for (int c = 0; c < 15; c++) {
            x.commit(c - 1, c > 3 ? 1 : -1);
        }
        for (int line = 0; line < 8; line++) {
            x.write(13, line, line == 0 ? 105 : line == 7 ? 703 : 190);
        }
        Dues.due("verdict(13, 3)", x.verdict(13, 3), 2);
        Dues.due("line(13, 7)", x.line(13, 7), 703);
        x.begin(0, 13, 3);
        while (x.start()) {
            x.crash();
            x.start();
            x.finish();
            lookAtAll(x);
        }
        Dues.due("reduced()", x.reduced(), 129);
        x.end();
    }

    private static void lookAtAll(CulpritFinder x) {
        x.next();
        x.journal();
        x.entry(0);
        x.state();
        x.suspects();
        x.weight(13);
        x.culprit();
        x.started();
    }
}
