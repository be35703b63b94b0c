import com.sun.management.ThreadMXBean;
import java.lang.management.ManagementFactory;

/**
 * All calls of one run live in one room of some 600,000 objects and arrays with 7.3 million fields and elements in all:
 * no run of 512 calls, whichever they are, may make more bytes than a part of that.
 */
public final class RoomTest {
    private static final Check CHECK = new Check("RoomTest");
    /** Two million elements of four bytes, a good quarter of the room. */
    private static final long MOST = 8_000_000;

    private interface Call {
        void run(Searchcluster x, int i);
    }

    private static long made() {
        return ((ThreadMXBean) ManagementFactory.getThreadMXBean()).getCurrentThreadAllocatedBytes();
    }

    private static Searchcluster filled() {
        Searchcluster x = Check.settled();
        Check.draft(x, "ba di ko la", "ba bi bo da di do fa fi fo ka ki ko la li lo ma", 50, 3);
        for (int key = 0; key < 48; key++) {
            x.put(key, false);
        }
        for (int i = 0; i < 3; i++) {
            for (int token = 30; token < 40; token++) {
                x.ask(i, token, 43, 30, 43, 31);
                x.ask(i, 43, -1, -1, -1, -1);
            }
            x.unask(i, 1);
        }
        x.beat(6);
        return x;
    }

    private static void look(String what, Call call) {
        Searchcluster x = filled();
        call.run(x, 0);
        long before = made();
        for (int i = 0; i < 512; i++) {
            call.run(x, i);
        }
        long bytes = made() - before;
        CHECK.is("512 times " + what + " is below the limit (it made " + bytes + " bytes)", bytes < MOST, true);
    }

    public static void main(String[] args) {
        // The first one brings its classes with it.
        Searchcluster first = new Searchcluster();
        long before = made();
        Searchcluster x = new Searchcluster();
        long bytes = made() - before;
        CHECK.is("a new one, that made " + bytes + " bytes", bytes < 60_000, true);
        CHECK.is("they are alike", x.digest(), first.digest());
        look("digest", (y, i) -> y.digest());
        look("isSound", (y, i) -> y.isSound());
        look("search", (y, i) -> y.search(i % 3, i % 40, 10));
        look("light", (y, i) -> y.light(i % 3, i % 48));
        look("put", (y, i) -> y.put(i % 48, false));
        look("put and beat", (y, i) -> {
            y.put(i % 48, false);
            y.beat(10);
        });
        look("sample", (y, i) -> y.sample(i % 3, i % 8));
        look("settle without an end", (y, i) -> {
            y.fall(0);
            y.settle(30);
        });
        look("leaders that fall", (y, i) -> {
            y.door((i + 1) % 5);
            y.rise(i % 5);
            y.fall((i + 2) % 5);
            y.put(i % 48, false);
            y.settle(30);
        });
        CHECK.end();
    }
}
