/** Promise 9 (child), 10 (navigate), and NAVIGATION in 12 (answer). */
public final class FrameTest {
    public static void main(String[] args) {
        children();
        depth();
        childOrder();
        whoMayNavigate();
        committedAlone();
        navigateOrder();
        another();
        commitDropsChildren();
        Bench.end();
    }

    private static void children() {
        Bench b = new Bench();
        b.open("http://a/x/y");
        b.messages();
        Bench.same("not committed", b.child(0, "z"), -1);
        Bench.same("message 6", b.messages(), "6 0 2 ");
        b.answer(0, "");
        b.messages();
        Bench.same("child", b.child(0, "z"), 1);
        Bench.same("another", b.child(0, "//b"), 2);
        Bench.same("messages", b.messages(), "1 0 1 http://a/x/z|1 1 2 http://b/");
        Bench.same("parent", b.about(2, 2), 0);
        Bench.same("no address", b.child(0, "a b"), -1);
        Bench.same("message 6", b.messages(), "6 0 1 ");
        Bench.same("child is not committed", b.child(1, ""), -1);
        Bench.same("message 6", b.messages(), "6 1 2 ");
    }

    private static void depth() {
        Bench b = new Bench();
        int f = b.committed("http://a");
        for (int i = 1; i < 5; i++) {
            f = b.committedChild(f, "");
            Bench.same("frame", f, i);
        }
        b.messages();
        Bench.same("depth 5", b.child(f, ""), -1);
        Bench.same("message 6", b.messages(), "6 4 2 ");
        Bench.same("depth 4", b.child(3, ""), 5);
    }

    private static void childOrder() {
        Bench b = new Bench();
        int top = b.committed("http://a");
        int deep = top;
        for (int i = 1; i < 5; i++) {
            deep = b.committedChild(deep, "");
        }
        for (int i = 5; i < 16; i++) {
            Bench.same("frame", b.child(top, ""), i);
        }
        b.messages();
        Bench.same("depth before address and room", b.child(deep, ":"), -1);
        Bench.same("message 6", b.messages(), "6 4 2 ");
        Bench.same("address before room", b.child(top, ":"), -1);
        Bench.same("message 6", b.messages(), "6 0 1 ");
        Bench.same("no room for a frame", b.child(top, "x"), -1);
        Bench.same("message 6", b.messages(), "6 0 3 ");
        b.go(1, "");
        for (int i = 0; i < 24; i++) {
            b.fetch(top, 0, true, "");
        }
        b.messages();
        Bench.same("a frame is free", b.about(2, 1), -1);
        Bench.same("no room for a request", b.child(top, "x"), -1);
        Bench.same("message 6", b.messages(), "6 0 3 ");
        Bench.same("none came", b.about(2, 1), -1);
    }

    /** Tab 0: 0 at a, in it 1 at b, in that 2 at c, and 3 at a beside 1; tab 1: 4 at b, in it 5 at c. */
    private static Bench family() {
        Bench b = new Bench();
        b.committed("http://a/");
        b.committedChild(0, "http://b/");
        b.committedChild(1, "http://c/");
        b.committedChild(0, "http://a/");
        b.committed("http://b/");
        b.committedChild(4, "http://c/");
        b.messages();
        return b;
    }

    private static void may(int f, int g) {
        Bench b = family();
        Bench.same(f + " may move " + g, b.navigate(f, g, "/x"), 0);
        String own = f == 0 || f == 3 ? "a" : f == 1 || f == 4 ? "b" : "c";
        Bench.same("message 1, by the address of " + f, b.messages(), "1 0 " + g + " http://" + own + "/x");
        Bench.same("under way", b.about(g, 4), 0);
    }

    private static void mayNot(int f, int g) {
        Bench b = family();
        Bench.same(f + " may not move " + g, b.navigate(f, g, "/x"), -1);
        Bench.same("message 6", b.messages(), "6 " + f + " 2 ");
        Bench.same("none under way", b.about(g, 4), -1);
    }

    private static void whoMayNavigate() {
        boolean[][] allowed = {
            {true, true, true, true, false, false},
            {true, true, true, false, true, true},
            {true, false, true, false, false, true},
            {true, true, true, true, false, false},
            {false, true, true, false, true, true},
            {false, false, true, false, true, true}};
        for (int f = 0; f < 6; f++) {
            for (int g = 0; g < 6; g++) {
                if (allowed[f][g]) {
                    may(f, g);
                } else {
                    mayNot(f, g);
                }
            }
        }
    }

    private static void committedAlone() {
        Bench b = new Bench();
        b.committed("http://a");
        b.open("http://a");
        b.messages();
        Bench.same("g is not committed with that origin yet", b.navigate(0, 1, "x"), -1);
        Bench.same("message 6", b.messages(), "6 0 2 ");
        Bench.same("f is not committed", b.navigate(1, 1, "http://x"), -1);
        Bench.same("f is not committed", b.navigate(1, 0, "http://x"), -1);
        Bench.same("message 6", b.messages(), "6 1 2 |6 1 2 ");
        b.answer(0, "");
        b.messages();
        Bench.same("now it is", b.navigate(0, 1, "x"), 0);
        Bench c = new Bench();
        c.committed("http://a");
        c.committed("https://a");
        c.committed("http://a:81");
        c.committed("http://a:80/z");
        Bench.same("another scheme", c.navigate(0, 1, "x"), -1);
        Bench.same("another port", c.navigate(0, 2, "x"), -1);
        Bench.same("the same port", c.navigate(0, 3, "x"), 0);
        Bench d = new Bench();
        d.committed("https://a");
        d.committed("http://a:443");
        d.committed("https://b:443");
        Bench.same("the scheme alone", d.navigate(0, 1, "x"), -1);
        Bench.same("the host alone", d.navigate(0, 2, "x"), -1);
    }

    private static void navigateOrder() {
        Bench b = new Bench();
        b.committed("http://a");
        b.committed("http://b");
        for (int i = 0; i < 24; i++) {
            b.fetch(0, 0, true, "");
        }
        b.messages();
        Bench.same("not allowed before address", b.navigate(0, 1, ":"), -1);
        Bench.same("address before room", b.navigate(0, 0, ":"), -1);
        Bench.same("no room", b.navigate(0, 0, "x"), -1);
        Bench.same("messages 6", b.messages(), "6 0 2 |6 0 1 |6 0 3 ");
    }

    private static void another() {
        Bench b = new Bench();
        b.committed("http://a");
        b.committedChild(0, "http://b");
        Bench.same("begun", b.navigate(0, 1, "http://c"), 0);
        Bench.same("no address", b.navigate(0, 1, ":"), -1);
        Bench.same("stays", b.about(1, 4), 0);
        Bench.same("not the frame's own fetches", b.fetch(1, 0, true, ""), 1);
        b.messages();
        Bench.same("again", b.navigate(1, 1, "/d"), 0);
        Bench.same("still b", b.messages(), "1 0 1 http://b/d");
        Bench.same("fetch is there", b.about(1, 6), 1);
        b.answer(0, "text");
        Bench.same("fetch is forgotten", b.about(1, 6), -1);
        Bench.same("committed", b.messages(), "2 1 0 http://b/d|3 1 0 text");
        Bench.throwsIndex("over", () -> b.answer(0, ""));
    }

    private static void commitDropsChildren() {
        Bench b = new Bench();
        b.committed("http://a");
        b.committedChild(0, "x");
        b.committedChild(1, "y");
        b.child(0, "z");
        int fetched = b.fetch(2, 0, true, "");
        int own = b.fetch(0, 0, true, "");
        Bench.same("requests", fetched * 10 + own, 12);
        int r = b.navigate(2, 0, "/n");
        Bench.same("children until the answer", b.about(2, 2), 1);
        b.messages();
        b.answer(r, "t");
        Bench.same("messages", b.messages(), "2 0 0 http://a/n|3 0 3 t");
        for (int f = 1; f < 4; f++) {
            Bench.same("no frame", b.about(f, 1), -1);
        }
        for (int k = 0; k < 4; k++) {
            Bench.same("no request", b.about(k, 5), -1);
        }
        Bench.same("parent stays", b.about(0, 3), 1);
        b.committedChild(0, "x");
        b.committedChild(0, "w");
        b.committedChild(1, "y");
        b.go(1, "http://b");
        Bench.same("its child goes", b.about(3, 1), -1);
        Bench.same("one beside it stays", b.about(2, 1), 0);
        Bench.same("least free number", b.child(2, "q"), 3);
    }
}
