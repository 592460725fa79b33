import java.util.function.ObjIntConsumer;

/** Where IndexOutOfBoundsException is thrown nothing else changes, but the LINE. */
public final class WrongInputTest {
    private static final int[] TABS = {-1, 1, 3, 4, Integer.MIN_VALUE, Integer.MAX_VALUE};
    private static final int[] FRAMES = {-1, 2, 15, 16, Integer.MIN_VALUE, Integer.MAX_VALUE};
    private static final int[] REQUESTS = {-1, 2, 23, 24, Integer.MIN_VALUE, Integer.MAX_VALUE};

    public static void main(String[] args) {
        keepsLine("close", TABS, TabKernel::close);
        keepsLine("focus", TABS, TabKernel::focus);
        keepsLine("cookies", FRAMES, TabKernel::cookies);
        keepsLine("store", FRAMES, (k, f) -> k.store(f, 0, 9));
        keepsLine("store, wrong key", FRAMES, (k, f) -> k.store(f, 8, 9));
        keepsLine("stored", FRAMES, (k, f) -> k.stored(f, 0));
        keepsLine("stored, wrong key", FRAMES, (k, f) -> k.stored(f, -1));
        takesLine("child", "x", FRAMES, TabKernel::child);
        takesLine("child, no address", ":", FRAMES, TabKernel::child);
        takesLine("navigate", "x", FRAMES, (k, f) -> k.navigate(f, 0));
        takesLine("navigate", "x", FRAMES, (k, g) -> k.navigate(0, g));
        takesLine("navigate by one not committed", "x", FRAMES, (k, g) -> k.navigate(1, g));
        takesLine("fetch", "x", FRAMES, (k, f) -> k.fetch(f, 0, true));
        takesLine("fetch, wrong mode", "x", FRAMES, (k, f) -> k.fetch(f, 3, true));
        takesLine("cookie", "n=2", FRAMES, TabKernel::cookie);
        takesLine("post", "*", FRAMES, (k, f) -> k.post(f, 0, 1));
        takesLine("post", "*", FRAMES, (k, g) -> k.post(0, g, 1));
        takesLine("post by one not committed", "*", FRAMES, (k, g) -> k.post(1, g, 1));
        takesLine("answer", "x", REQUESTS, TabKernel::answer);
        takesLine("set", "n=2", REQUESTS, TabKernel::set);
        takesLine("leave", "*", REQUESTS, (k, r) -> k.leave(r, true));
        takesLine("lead", "x", REQUESTS, TabKernel::lead);
        gone();
        Bench.end();
    }

    /** One tab; frame 0 is committed, its child 1 is not; request 0 is a navigation, 1 a fetch. */
    private static Bench busy() {
        Bench b = new Bench();
        b.committed("http://a.com");
        b.child(0, "y");
        b.fetch(0, 0, true, "z");
        b.cookie(0, "n=1");
        b.kernel.store(0, 0, 5);
        b.kernel.cookies(0);
        return b;
    }

    private static void keepsLine(String what, int[] numbers, ObjIntConsumer<TabKernel> call) {
        for (int number : numbers) {
            thrown(what + " " + number, "kept", 4, number, call);
        }
    }

    private static void takesLine(String what, String line, int[] numbers, ObjIntConsumer<TabKernel> call) {
        for (int number : numbers) {
            thrown(what + " " + number, line, 0, number, call);
        }
    }

    private static void thrown(String what, String line, int left, int number, ObjIntConsumer<TabKernel> call) {
        Bench b = busy().line(line);
        Bench.throwsIndex(what, () -> call.accept(b.kernel, number));
        Bench.same(what + " leaves a line of", b.lineLength(), left);
        Bench.same(what + " changes nothing", b.state(), busy().state());
        Bench.same(what + " changes no cookie", b.cookies(0), "n=1");
    }

    private static void gone() {
        Bench b = busy();
        b.go(0, "");
        Bench.throwsIndex("a child that is gone", () -> b.child(1, "x"));
        Bench.throwsIndex("its request", () -> b.answer(0, "x"));
        Bench.throwsIndex("a fetch that is forgotten", () -> b.answer(1, "x"));
        b.kernel.close(0);
        Bench.throwsIndex("a frame of a tab that is gone", () -> b.kernel.cookies(0));
        Bench.throwsIndex("and stored", () -> b.kernel.stored(0, 0));
        Bench.throwsIndex("the tab", () -> b.kernel.focus(0));
    }
}
