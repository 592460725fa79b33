import java.util.function.ObjIntConsumer;

/**
 * "IndexOutOfBoundsException: no such tab, frame or request (by number, or none there). Where it is thrown nothing
 * else changes (but the LINE)."
 */
public final class WrongInputTest {
    /** Below and above the numbers that there are, far off, and numbers that are free. */
    private static final int[] TABS = {-1, 2, 3, 4, 5, 8, 256, 65536, Integer.MIN_VALUE, Integer.MAX_VALUE};
    private static final int[] FRAMES = {-1, 3, 15, 16, 17, 32, 256, 65536, Integer.MIN_VALUE, Integer.MAX_VALUE};
    private static final int[] REQUESTS = {-1, 4, 23, 24, 25, 48, 256, 65536, Integer.MIN_VALUE, Integer.MAX_VALUE};

    private static final Bench BUSY = busy();

    public static void main(String[] args) {
        tabs();
        frames();
        twoFrames();
        requests();
        insideThem();
        gone();
        noneAtAll();
        Bench.end();
    }

    /**
     * Tabs 0 and 1, of which 0 is focused; frame 0 is committed, its child 1 and the other tab's top 2 are not;
     * requests 0 and 1 are navigations, 2 and 3 fetches, one of them with leave told, one led on four times.
     */
    private static Bench busy() {
        Bench b = new Bench(3);
        b.suffix("co.uk");
        b.pass(7);
        b.committed("http://a.com/x/y");
        b.child(0, "http://b.com/z");
        b.open("https://a.com");
        b.fetch(0, 1, true, "http://b.com/w");
        b.fetch(0, 0, false, "v");
        b.focus(0);
        b.leave(2, true, "http://a.com");
        for (int i = 0; i < 4; i++) {
            b.lead(3, "u" + i);
        }
        b.cookie(0, "n=1");
        b.set(0, "m=2; httponly");
        b.store(0, 0, 5);
        b.store(0, 7, -5);
        b.cookies(0);
        return b;
    }

    private static void keepsLine(String what, int[] numbers, ObjIntConsumer<Bench> call) {
        for (int number : numbers) {
            BUSY.throwsOn(what + " " + number, "kept", 4, b -> call.accept(b, number));
        }
    }

    private static void takesLine(String what, String line, int[] numbers, ObjIntConsumer<Bench> call) {
        for (int number : numbers) {
            BUSY.throwsOn(what + " " + number + " " + line, line, 0, b -> call.accept(b, number));
        }
    }

    private static void tabs() {
        keepsLine("close", TABS, Bench::close);
        keepsLine("focus", TABS, Bench::focus);
    }

    private static void frames() {
        keepsLine("cookies", FRAMES, Bench::cookies);
        keepsLine("store", FRAMES, (b, f) -> b.store(f, 0, 9));
        keepsLine("store, wrong key", FRAMES, (b, f) -> b.store(f, 8, 9));
        keepsLine("stored", FRAMES, (b, f) -> b.stored(f, 0));
        keepsLine("stored, wrong key", FRAMES, (b, f) -> b.stored(f, -1));
        takesLine("child", "x", FRAMES, Bench::child);
        takesLine("child, no address", ":", FRAMES, Bench::child);
        takesLine("fetch", "x", FRAMES, (b, f) -> b.fetch(f, 0, true));
        takesLine("fetch, wrong mode", "x", FRAMES, (b, f) -> b.fetch(f, 3, true));
        takesLine("fetch, no address", ":", FRAMES, (b, f) -> b.fetch(f, 1, true));
        takesLine("cookie", "n=2", FRAMES, Bench::cookie);
        takesLine("cookie, no pair", "n", FRAMES, Bench::cookie);
    }

    private static void twoFrames() {
        takesLine("navigate f", "x", FRAMES, (b, f) -> b.navigate(f, 0));
        takesLine("navigate f, no address", ":", FRAMES, (b, f) -> b.navigate(f, 0));
        takesLine("navigate g", "x", FRAMES, (b, g) -> b.navigate(0, g));
        takesLine("navigate g, no address", ":", FRAMES, (b, g) -> b.navigate(0, g));
        takesLine("navigate g by one not committed", "x", FRAMES, (b, g) -> b.navigate(1, g));
        takesLine("navigate both", "x", FRAMES, (b, f) -> b.navigate(f, f));
        takesLine("post f", "*", FRAMES, (b, f) -> b.post(f, 0, 1));
        takesLine("post f, nobody meant", "x", FRAMES, (b, f) -> b.post(f, 0, 1));
        takesLine("post g", "*", FRAMES, (b, g) -> b.post(0, g, 1));
        takesLine("post g, nobody meant", "x", FRAMES, (b, g) -> b.post(0, g, 1));
        takesLine("post g by one not committed", "*", FRAMES, (b, g) -> b.post(1, g, 1));
        takesLine("post both", "*", FRAMES, (b, f) -> b.post(f, f, 1));
    }

    private static void requests() {
        takesLine("answer", "x", REQUESTS, Bench::answer);
        takesLine("set", "n=2", REQUESTS, Bench::set);
        takesLine("set, no pair", "n", REQUESTS, Bench::set);
        takesLine("leave", "*", REQUESTS, (b, r) -> b.leave(r, true));
        takesLine("leave, no address", "x", REQUESTS, (b, r) -> b.leave(r, false));
        takesLine("lead", "x", REQUESTS, Bench::lead);
        takesLine("lead, no address", ":", REQUESTS, Bench::lead);
    }

    /** The greatest numbers that are there throw nothing. */
    private static void insideThem() {
        Bench b = BUSY.copy();
        b.focus(1);
        b.store(2, 0, 1);
        Bench.same("frame 2", b.cookies(2), -1);
        Bench.same("navigate to frame 2", b.navigate(0, 2, "x"), -1);
        Bench.same("post to frame 2", b.post(0, 2, 1, "*"), false);
        Bench.same("request 3", b.lead(3, "x"), true);
        b.set(3, "n=3");
        b.leave(3, true, "*");
        b.answer(3, "x");
        b.close(1);
        Bench all = new Bench();
        all.committed("http://a");
        for (int i = 1; i < 4; i++) {
            all.open("http://a");
        }
        for (int i = 4; i < 16; i++) {
            all.child(0, "");
        }
        for (int i = 15; i < 24; i++) {
            Bench.same("request", all.fetch(0, 0, true, ""), i);
        }
        all.answer(23, "");
        Bench.same("frame 15", all.cookies(15), -1);
        all.close(3);
    }

    private static void gone() {
        Bench b = BUSY.copy();
        b.go(0, "");
        b.throwsOn("a child that is gone", "x", 0, c -> c.child(1));
        b.throwsOn("its request", "x", 0, c -> c.answer(0));
        b.throwsOn("a fetch that is forgotten", "x", 0, c -> c.answer(2));
        b.throwsOn("a navigation that is answered", "x", 0, c -> c.lead(4));
        b.close(0);
        b.throwsOn("a frame of a tab that is gone", "kept", 4, c -> c.cookies(0));
        b.throwsOn("and stored", "kept", 4, c -> c.stored(0, 0));
        b.throwsOn("the tab", "kept", 4, c -> c.focus(0));
        b.throwsOn("the tab, again", "kept", 4, c -> c.close(0));
    }

    private static void noneAtAll() {
        Bench b = new Bench();
        b.throwsOn("close", "kept", 4, c -> c.close(0));
        b.throwsOn("focus", "kept", 4, c -> c.focus(0));
        b.throwsOn("cookies", "kept", 4, c -> c.cookies(0));
        b.throwsOn("store", "kept", 4, c -> c.store(0, 0, 1));
        b.throwsOn("stored", "kept", 4, c -> c.stored(0, 0));
        b.throwsOn("child", "http://a", 0, c -> c.child(0));
        b.throwsOn("navigate", "http://a", 0, c -> c.navigate(0, 0));
        b.throwsOn("fetch", "http://a", 0, c -> c.fetch(0, 0, true));
        b.throwsOn("cookie", "a=1", 0, c -> c.cookie(0));
        b.throwsOn("post", "*", 0, c -> c.post(0, 0, 1));
        b.throwsOn("answer", "x", 0, c -> c.answer(0));
        b.throwsOn("set", "a=1", 0, c -> c.set(0));
        b.throwsOn("leave", "*", 0, c -> c.leave(0, true));
        b.throwsOn("lead", "http://a", 0, c -> c.lead(0));
    }
}
