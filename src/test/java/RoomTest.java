import com.sun.management.ThreadMXBean;
import java.lang.management.ManagementFactory;

/** What the dearest runs of 512 calls make, all in all, stays far below the room that they live in. */
public final class RoomTest {
    /** A byte is the least that an element takes, so this is below the room's 7.3 million elements too. */
    private static final long MOST_BYTES = 4_000_000;

    public static void main(String[] args) {
        Bench.same("cookies again and again", within(RoomTest::cookies), true);
        Bench.same("navigations again and again", within(RoomTest::navigations), true);
        Bench.same("new cookies again and again", within(RoomTest::settings), true);
        Bench.end();
    }

    private static boolean within(Runnable run) {
        ThreadMXBean bean = (ThreadMXBean) ManagementFactory.getThreadMXBean();
        run.run();
        long before = bean.getCurrentThreadAllocatedBytes();
        run.run();
        return bean.getCurrentThreadAllocatedBytes() - before < MOST_BYTES;
    }

    private static TabKernel full() {
        TabKernel kernel = new TabKernel(40);
        Bench.type(kernel, "http://abcdefghijkl.abcdefghijkl.com/x/y/z/x/y/z/x/y/z");
        kernel.open();
        kernel.answer(0);
        for (int i = 10; i < 50; i++) {
            Bench.type(kernel, "name567890" + i + "=value67890" + i + ";path=/");
            kernel.cookie(0);
        }
        return kernel;
    }

    private static void cookies() {
        TabKernel kernel = full();
        for (int i = 0; i < 260; i++) {
            kernel.cookies(0);
        }
    }

    private static void navigations() {
        TabKernel kernel = full();
        for (int i = 0; i < 260; i++) {
            kernel.navigate(0, 0);
        }
    }

    private static void settings() {
        TabKernel kernel = full();
        for (int i = 0; i < 12; i++) {
            Bench.type(kernel, "n" + i + "=" + ";=".repeat(78));
            kernel.cookie(0);
        }
    }
}
