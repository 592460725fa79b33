/** Promise 5 (open), 6 (close), 7 (focus), 8 (enter), 21 (bar), 22 (about). */
public final class TabTest {
    public static void main(String[] args) {
        opening();
        noRoomForTabs();
        noRoomForFrames();
        noRoomForRequests();
        closing();
        focusing();
        entering();
        theBar();
        aboutThem();
        Bench.end();
    }

    private static void opening() {
        Bench b = new Bench();
        Bench.same("first tab", b.open("http://a.com/x"), 0);
        Bench.same("message 1", b.messages(), "1 0 0 http://a.com/x");
        Bench.same("focused", b.about(0, 7), 0);
        Bench.same("not committed", b.about(0, 3), 0);
        Bench.same("navigation", b.about(0, 4), 0);
        Bench.same("second tab", b.open("https://b.com"), 1);
        Bench.same("message 1", b.messages(), "1 1 1 https://b.com/");
        Bench.same("focused", b.about(0, 7), 1);
        Bench.same("no address", b.open("b.com"), -1);
        Bench.same("no reference either", b.open("/b"), -1);
        Bench.same("no message", b.messages(), "");
        Bench.same("focused as before", b.about(0, 7), 1);
        b.close(0);
        Bench.same("least number that is free", b.open("http://c"), 0);
        Bench.same("so with frames and requests", b.messages(), "1 0 0 http://c/");
    }

    private static void noRoomForTabs() {
        Bench b = new Bench();
        for (int i = 0; i < 4; i++) {
            Bench.same("tab", b.open("http://a"), i);
        }
        b.messages();
        Bench.same("no room", b.open("http://a"), -1);
        Bench.same("no message", b.messages(), "");
        Bench.same("focused as before", b.about(0, 7), 3);
    }

    private static void noRoomForFrames() {
        Bench b = new Bench();
        int top = b.committed("http://a");
        for (int i = 1; i < 16; i++) {
            Bench.same("frame", b.committedChild(top, ""), i);
        }
        Bench.same("no room", b.open("http://a"), -1);
        Bench.same("no tab", b.about(1, 0), -1);
        b.go(5, "");
        Bench.same("no room still", b.open("http://a"), -1);
        b.go(0, "");
        Bench.same("room", b.open("http://a"), 1);
        Bench.same("its top", b.about(1, 0), 1);
    }

    private static void noRoomForRequests() {
        Bench b = new Bench();
        int top = b.committed("http://a");
        for (int i = 0; i < 24; i++) {
            Bench.same("request", b.fetch(top, 0, true, ""), i);
        }
        b.messages();
        Bench.same("no room", b.open("http://a"), -1);
        Bench.same("no tab", b.about(1, 0), -1);
        Bench.same("no frame", b.about(1, 1), -1);
        Bench.same("focused as before", b.about(0, 7), 0);
        Bench.same("no room to enter", b.enter("http://a"), -1);
        Bench.same("no message", b.messages(), "");
        b.answer(17, "");
        Bench.same("room", b.enter("http://a"), 17);
    }

    private static void closing() {
        Bench b = new Bench();
        int one = b.committed("http://a");
        int two = b.committed("http://b");
        int inner = b.committedChild(one, "x");
        int innermost = b.child(inner, "y");
        int fetched = b.fetch(inner, 0, true, "z");
        int other = b.fetch(two, 0, true, "z");
        b.messages();
        b.close(0);
        Bench.same("no tab", b.about(0, 0), -1);
        Bench.same("no top", b.about(one, 1), -1);
        Bench.same("no child", b.about(inner, 1), -1);
        Bench.same("no child's child", b.about(innermost, 1), -1);
        Bench.same("its navigation is forgotten", b.about(0, 5), -1);
        Bench.same("its fetch is forgotten", b.about(fetched, 5), -1);
        Bench.same("the other's is not", b.about(other, 5), two);
        Bench.same("no message", b.messages(), "");
        Bench.same("focused is the other", b.about(0, 7), 1);
        Bench.same("the other is there", b.about(1, 0), two);
        b.close(1);
        Bench.same("none is focused", b.about(0, 7), -1);
        Bench.same("empty bar", b.barText(), "");
        Bench.throwsIndex("close a closed tab", () -> b.close(1));
        Bench.throwsIndex("focus a closed tab", () -> b.focus(1));
        Bench.same("none to enter", b.enter("http://a"), -1);
        Bench.same("opened", b.open("http://a"), 0);
        Bench.same("focused", b.about(0, 7), 0);
    }

    private static void focusing() {
        Bench b = new Bench();
        b.committed("http://a");
        b.committed("http://b");
        b.focus(0);
        Bench.same("focused", b.about(0, 7), 0);
        Bench.same("bar", b.barText(), "http://a/");
        b.focus(1);
        b.focus(1);
        Bench.same("focused", b.about(0, 7), 1);
        Bench.same("bar", b.barText(), "http://b/");
    }

    private static void entering() {
        Bench b = new Bench();
        Bench.same("no tab", b.enter("http://a"), -1);
        b.committed("http://a");
        int top = b.committed("http://b");
        b.messages();
        Bench.same("no address", b.enter("/x"), -1);
        Bench.same("none begun", b.about(top, 4), -1);
        Bench.same("no message", b.messages(), "");
        Bench.same("request", b.enter("http://c"), 0);
        Bench.same("message", b.messages(), "1 0 1 http://c/");
        Bench.same("navigation", b.about(top, 4), 0);
        Bench.same("no address", b.enter("c"), -1);
        Bench.same("the one under way stays", b.about(top, 4), 0);
        int held = b.fetch(top, 0, true, "");
        Bench.same("fetch", held, 1);
        Bench.same("its number is free for that", b.enter("http://d"), 0);
        Bench.same("one request for it", b.about(2, 5), -1);
        b.answer(0, "body");
        Bench.same("messages", b.messages(), "1 1 1 http://b/|1 0 1 http://d/|2 1 1 http://d/|3 1 0 body");
        b.focus(0);
        Bench.same("the other tab's", b.enter("http://e"), 0);
        Bench.same("message", b.messages(), "1 0 0 http://e/");
        lesserNumberThatIsFree();
        enterWithAllRequestsTaken();
    }

    private static void lesserNumberThatIsFree() {
        Bench b = new Bench();
        int top = b.committed("http://a");
        b.fetch(top, 0, true, "");
        Bench.same("navigation", b.enter("http://b"), 1);
        b.answer(0, "");
        Bench.same("least number", b.enter("http://c"), 0);
        Bench.same("the old one is forgotten", b.about(1, 5), -1);
        b.set(0, "a=1");
        b.leave(0, true, "*");
        Bench.same("heads begin anew", b.enter("http://c"), 0);
    }

    private static void enterWithAllRequestsTaken() {
        Bench b = new Bench();
        int top = b.committed("http://a");
        for (int i = 0; i < 23; i++) {
            b.fetch(top, 0, true, "");
        }
        Bench.same("the last one", b.enter("http://b"), 23);
        Bench.same("its number is free", b.enter("http://c"), 23);
        Bench.same("and in navigate", b.navigate(top, top, "d"), 23);
    }

    private static void theBar() {
        Bench b = new Bench();
        Bench.same("no tab", b.barText(), "");
        b.open("http://a:81/x?");
        Bench.same("not committed", b.barText(), "");
        b.answer(0, "");
        Bench.same("committed", b.barText(), "http://a:81/x?");
        b.enter("http://b");
        Bench.same("while another is under way", b.barText(), "http://a:81/x?");
        b.lead(0, "http://c");
        Bench.same("while it is led on", b.barText(), "http://a:81/x?");
        b.answer(0, "");
        Bench.same("there", b.barText(), "http://c/");
        b.committedChild(0, "http://d");
        Bench.same("a child's is not shown", b.barText(), "http://c/");
        b.open("http://e");
        Bench.same("focused tab is not committed", b.barText(), "");
        Bench.same("shown is empty then", b.shown(0), -1);
    }

    private static void aboutThem() {
        Bench b = new Bench();
        b.open("http://a");
        b.committed("http://b");
        int inner = b.child(1, "x");
        int fetched = b.fetch(1, 0, false, "y");
        Bench.same("tops", b.about(0, 0) * 10 + b.about(1, 0), 1);
        Bench.same("tab of a top", b.about(1, 1), 1);
        Bench.same("tab of a child", b.about(inner, 1), 1);
        Bench.same("parent of a top", b.about(1, 2), -1);
        Bench.same("parent of a child", b.about(inner, 2), 1);
        Bench.same("committed", b.about(1, 3), 1);
        Bench.same("not committed", b.about(inner, 3), 0);
        Bench.same("navigation", b.about(inner, 4), 1);
        Bench.same("navigation of tab 0", b.about(0, 4), 0);
        Bench.same("no navigation", b.about(1, 4), -1);
        Bench.same("frame of a request", b.about(1, 5), inner);
        Bench.same("frame of a fetch", b.about(fetched, 5), 1);
        Bench.same("a navigation", b.about(1, 6), 0);
        Bench.same("a fetch", b.about(fetched, 6), 1);
        b.suffix("com");
        b.cookie(1, "a=1");
        for (int k : new int[] {-1, 0, 99, Integer.MIN_VALUE, Integer.MAX_VALUE}) {
            Bench.same("focused", b.about(k, 7), 1);
            Bench.same("cookies", b.about(k, 8), 1);
            Bench.same("messages", b.about(k, 9), 6);
            Bench.same("suffixes", b.about(k, 10), 1);
            Bench.same("another what", b.about(k, 11), -1);
            Bench.same("another what", b.about(k, -1), -1);
            Bench.same("another what", b.about(k, Integer.MIN_VALUE), -1);
        }
        int[] beyond = {4, 16, 16, 16, 16, 24, 24};
        for (int what = 0; what <= 6; what++) {
            Bench.same("below", b.about(-1, what), -1);
            Bench.same("above", b.about(beyond[what], what), -1);
            Bench.same("far above", b.about(Integer.MAX_VALUE, what), -1);
            Bench.same("none there", b.about(beyond[what] - 1, what), -1);
        }
    }
}
