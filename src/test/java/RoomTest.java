import com.sun.management.ThreadMXBean;
import java.lang.management.ManagementFactory;

/**
 * All calls of a run live in one room that is never swept: an object may take some room when it
 * is made, its calls none at all.
 */
public final class RoomTest {
    private static final int RUNS = 50, CALLS = 512;
    private static final long MOST_BYTES_OF_AN_OBJECT = 40_000;
    private static final ThreadMXBean MEMORY = (ThreadMXBean) ManagementFactory.getThreadMXBean();
    private static final Checks c = new Checks();

    public static void main(String[] args) {
        c.promise(0, "room");
        // What the Java machine itself takes at a first run is not the program's.
        run(new FolderRows());
        allocated();
        long made = 0;
        long called = 0;
        for (int i = 0; i < RUNS; i++) {
            long start = allocated();
            FolderRows x = new FolderRows();
            long middle = allocated();
            run(x);
            long end = allocated();
            made = Math.max(made, middle - start);
            called += end - middle;
        }
        c.holds("an object takes little room, but it takes " + made, made < MOST_BYTES_OF_AN_OBJECT);
        c.holds("calls take no room, but they take " + called, called < RUNS * 100L);
        c.end();
    }

    private static long allocated() {
        return MEMORY.getThreadAllocatedBytes(Thread.currentThread().getId());
    }

    private static void run(FolderRows x) {
        x.machines(4);
        for (int i = 0; i < CALLS; i += 16) {
            int m = i / 16 % 4;
            int t = 1 + i / 16 % 3;
            x.room(m, 200);
            x.make(m, 1 + i / 64 % 2, 0, 3);
            x.write(m, t, 0x0103020703L * i, 8);
            x.move(m, t, t + 1, 3);
            x.send(m, (m + 1) % 4);
            x.sendSome((m + 1) % 4, (m + 2) % 4, 3);
            x.fetch((m + 1) % 4, t);
            x.away(m, t);
            x.bulk(5, m, t);
            x.sum(m, 0);
            x.apart(m, 3);
            x.let(m);
            x.share(1, t);
            x.could(1, m, t, 0);
            x.odd(m, 0, 0);
            x.night();
        }
    }
}
