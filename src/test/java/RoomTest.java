import com.sun.management.ThreadMXBean;
import java.lang.management.ManagementFactory;
import java.util.function.ToLongFunction;

/**
 * All calls of one run live in one room of some 600,000 objects and arrays, 7.3 million fields
 * and elements in all: whatever call is made 512 times, what is made by it stays far below that.
 */
public final class RoomTest {
    /** As many bytes as 7.3 million fields and elements take at least, were each of four bytes. */
    private static final long ROOM = 4L * 7300000;

    private static final ThreadMXBean THREADS = (ThreadMXBean) ManagementFactory.getThreadMXBean();
    private static long sum;

    public static void main(String[] args) {
        if (!THREADS.isThreadAllocatedMemorySupported()) {
            System.out.println("this machine does not tell what is made");
            Checks.dueTrue("nothing is looked at", true);
            Checks.end();
        }
        run("row", x -> x.row(0, 2, 40));
        run("copy", x -> x.copy(0, 0, 0, 1, 20));
        run("feed and tongue", x -> x.feed(' ', 1) + x.tongue());
        run("say", x -> x.say(1, 1, 0, 20));
        run("apart", x -> x.apart(2, -2));
        run("both", x -> x.both(0, 2, 1));
        run("heard", x -> x.heard(2, -1));
        run("dealt", x -> x.dealt(0, 6, 4, -1));
        run("secret", x -> x.secret(2, 255));
        run("signed", x -> x.signed(2, 4095));
        run("plus", x -> x.plus(2000, -1));
        run("same", x -> x.same(2));
        run("image and restore", x -> x.image(0) + x.restore(0));
        run("kind", x -> x.kind(2));
        run("as", x -> x.as(2, 5));
        run("ask and trace", x -> x.ask(2, 0) + x.trace(0));
        run("count", x -> x.count(0));
        Checks.dueTrue("the calls answer", sum != 0);
        Checks.end();
    }

    private static SaidByTimes ready() {
        SaidByTimes x = Checks.speaking("thing 2 or 3 0;thing 5 or 7 0;thing 11 0;thing 13 0;thing 17 0;thing 19 0;");
        x.row(0, 0, 24);
        x.row(1, 0, 40);
        for (int i = 0; i < 24; i++) {
            x.set(0, i, i % 3);
        }
        for (int slot = 0; slot < 8; slot++) {
            x.put(slot, 1L << (20 + slot));
        }
        return x;
    }

    private static void run(String what, ToLongFunction<SaidByTimes> call) {
        SaidByTimes warm = ready();
        sum += call.applyAsLong(warm);
        long before = THREADS.getThreadAllocatedBytes(Thread.currentThread().getId());
        SaidByTimes x = ready();
        for (int k = 0; k < 400; k++) {
            sum += call.applyAsLong(x);
        }
        long made = THREADS.getThreadAllocatedBytes(Thread.currentThread().getId()) - before;
        Checks.dueTrue(what + " makes " + made + " bytes in a run", made < ROOM);
    }
}
