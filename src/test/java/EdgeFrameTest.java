/** The edges of FRAMES and of promises 9 (child) and 10 (navigate), sentence by sentence. */
public final class EdgeFrameTest {
    public static void main(String[] args) {
        childNotCommitted();
        depthOfFive();
        childOfNoAddress();
        sixteenFrames();
        childWithoutRequest();
        firstThatHolds();
        leastFreeFrame();
        childrenGoAlong();
        childrenOfLesserNumbers();
        navigateNotCommitted();
        itselfAndItsTop();
        framesAround();
        originsThatMatch();
        navigateNoAddress();
        navigateWithoutRoom();
        anotherBegins();
        refusedForgetsNone();
        navigateOrder();
        Bench.end();
    }

    private static Bench at(String address) {
        Bench b = new Bench();
        b.committed(address);
        b.clear();
        return b;
    }

    /** A chain of so many frames, each the child of the one before. */
    private static Bench chain(int depth) {
        Bench b = at("http://a/");
        for (int i = 1; i < depth; i++) {
            Bench.same("frame", b.committedChild(i - 1, ""), i);
        }
        b.clear();
        return b;
    }

    /** "NONE, and message 6, if f is not committed ... (2)" */
    private static void childNotCommitted() {
        Bench b = new Bench();
        b.open("http://a/");
        b.clear();
        for (String text : new String[] {"", "x", "http://a/", ":"}) {
            b.refuses("a top not committed: " + text, -1, "6 0 2 ", c -> c.child(0, text));
        }
        b.answer(0);
        b.child(0, "x");
        b.refuses("a child not committed", -1, "6 1 2 ", c -> c.child(1, "x"));
        b.lead(0, ":");
        b.refuses("never committed", -1, "6 1 2 ", c -> c.child(1, "x"));
        b.navigate(0, 1, "x");
        b.answer(0);
        Bench.same("committed", b.child(1, "x"), 2);
        b.enter("http://b");
        Bench.same("committed, and another under way", b.child(0, "x"), 3);
    }

    /** "or its depth (TOP 1) is 5 (2)" */
    private static void depthOfFive() {
        for (int depth = 1; depth <= 4; depth++) {
            Bench b = chain(depth);
            Bench.same("at depth " + depth, b.child(depth - 1, "x"), depth);
            Bench.same("its parent", b.about(depth, 2), depth - 1);
            Bench.same("message 1", b.messages(), "1 0 " + depth + " http://a/x");
        }
        Bench b = chain(5);
        for (String text : new String[] {"", "x", "http://b/", ":"}) {
            b.refuses("at depth 5: " + text, -1, "6 4 2 ", c -> c.child(4, text));
        }
        Bench.same("beside it", b.child(3, "x"), 5);
        b.answer(0);
        b.clear();
        b.refuses("beside it, at depth 5", -1, "6 5 2 ", c -> c.child(5, "x"));
    }

    /** "it is no such address (1)" */
    private static void childOfNoAddress() {
        Bench b = at("http://a/x/");
        for (String none : new String[] {":", " ", "a b", "//", "http://", "p".repeat(50), "?" + "p".repeat(49)}) {
            b.refuses("no such address: " + none, -1, "6 0 1 ", c -> c.child(0, none));
        }
        Bench.same("just so long", b.child(0, "p".repeat(49)), 1);
    }

    private static Bench family(int children) {
        Bench b = at("http://a/");
        for (int i = 1; i <= children; i++) {
            Bench.same("frame", b.committedChild(0, "x"), i);
        }
        b.clear();
        return b;
    }

    /** "FRAMES 0 .. 15"; "or there is no room (3)" */
    private static void sixteenFrames() {
        Bench b = family(14);
        Bench.same("the sixteenth", b.child(0, "x"), 15);
        b.answer(0);
        b.clear();
        b.refuses("a seventeenth", -1, "6 0 3 ", c -> c.child(0, "x"));
        b.refuses("a seventeenth, of another", -1, "6 15 3 ", c -> c.child(15, "x"));
        Bench tabs = family(12);
        for (int i = 1; i < 4; i++) {
            tabs.open("http://a/");
        }
        tabs.clear();
        tabs.refuses("frames of all tabs count", -1, "6 0 3 ", c -> c.child(0, "x"));
        tabs.close(2);
        Bench.same("room again", tabs.child(0, "x"), 14);
    }

    /** "no room" for its request. */
    private static void childWithoutRequest() {
        Bench b = at("http://a/");
        for (int i = 0; i < 23; i++) {
            b.fetch(0, 0, true, "");
        }
        Bench last = b.copy();
        Bench.same("the last request", last.child(0, "x"), 1);
        Bench.same("is 23", last.about(1, 4), 23);
        last.clear();
        last.refuses("none is left", -1, "6 0 3 ", c -> c.child(0, "x"));
        b.fetch(0, 0, true, "");
        b.clear();
        b.refuses("none is left", -1, "6 0 3 ", c -> c.child(0, "x"));
    }

    /** "the first of these that holds" */
    private static void firstThatHolds() {
        Bench b = chain(5);
        for (int i = 5; i < 16; i++) {
            Bench.same("frame", b.child(0, ""), i);
        }
        b.clear();
        b.refuses("not committed, no address, no room", -1, "6 5 2 ", c -> c.child(5, ":"));
        b.refuses("not committed, no room", -1, "6 5 2 ", c -> c.child(5, ""));
        b.refuses("depth 5, no address, no room", -1, "6 4 2 ", c -> c.child(4, ":"));
        b.refuses("depth 5, no room", -1, "6 4 2 ", c -> c.child(4, ""));
        b.refuses("no address, no room", -1, "6 0 1 ", c -> c.child(0, ":"));
        b.refuses("no room", -1, "6 0 3 ", c -> c.child(0, ""));
    }

    /** "New tabs and frames get the least number that is free." */
    private static void leastFreeFrame() {
        Bench b = family(14);
        Bench.same("a child's child", b.committedChild(3, "x"), 15);
        b.go(0, "http://a/");
        Bench.same("all are free", b.child(0, ""), 1);
        Bench.same("the next", b.child(0, ""), 2);
        Bench c = at("http://a/");
        c.committedChild(0, "x");
        c.committedChild(1, "y");
        c.committedChild(0, "x");
        c.committedChild(2, "z");
        c.committedChild(3, "y");
        c.go(1, "w");
        Bench.same("2 and 4 are free", c.about(2, 1) + c.about(4, 1), -2);
        Bench.same("the least", c.child(3, ""), 2);
        Bench.same("the next", c.child(3, ""), 4);
        Bench.same("the next", c.child(3, ""), 6);
        Bench.same("its own parent", c.about(2, 2), 3);
        Bench.same("is not committed", c.about(2, 3), 0);
    }

    /** "A frame that goes takes its children along", of whatever depth; "REQUESTS of frames that are gone are forgotten." */
    private static void childrenGoAlong() {
        Bench b = chain(5);
        b.committedChild(0, "beside");
        for (int f = 0; f < 6; f++) {
            Bench.same("fetch", b.fetch(f, 0, true, ""), f);
        }
        b.child(3, "uncommitted");
        Bench.same("frame", b.about(6, 2), 3);
        int r = b.navigate(1, 1, "n");
        b.clear();
        b.answer(r, "t");
        Bench.same("messages", b.messages(), "2 1 0 http://a/n|3 1 " + r + " t");
        for (int f = 0; f < 16; f++) {
            Bench.same("frame " + f, b.about(f, 1), f == 0 || f == 1 || f == 5 ? 0 : -1);
        }
        for (int k = 0; k < 24; k++) {
            Bench.same("request " + k, b.about(k, 5), k == 0 || k == 5 ? k : -1);
        }
    }

    /** Numbers that became free are a child's too: less than its parent's, down to 0. */
    private static void childrenOfLesserNumbers() {
        Bench b = at("http://z/");
        b.committed("http://y/");
        b.committed("http://a/");
        b.close(0);
        b.close(1);
        Bench.same("a child", b.committedChild(2, "x"), 0);
        Bench.same("its child", b.committedChild(0, "y"), 1);
        Bench.same("its parent", b.about(0, 2), 2);
        Bench.same("of the child", b.fetch(0, 0, true, ""), 0);
        Bench.same("of its child", b.fetch(1, 0, true, ""), 1);
        Bench.same("of the top", b.fetch(2, 0, true, ""), 2);
        Bench closed = b.copy();
        closed.close(2);
        areGone(closed, "closed");
        Bench.same("no top", closed.about(2, 1), -1);
        Bench anew = b.copy();
        anew.go(2, "n");
        areGone(anew, "committed anew");
        Bench.same("the top stays", anew.about(2, 3), 1);
        b.go(0, "n");
        Bench.same("the child stays", b.about(0, 2), 2);
        Bench.same("its child goes", b.about(1, 1), -1);
        Bench.same("the top's request stays", b.about(2, 5), 2);
    }

    private static void areGone(Bench b, String what) {
        for (int r = 0; r < 3; r++) {
            Bench.same("no request, " + what, b.about(r, 5), -1);
        }
        for (int f = 0; f < 2; f++) {
            Bench.same("no frame, " + what, b.about(f, 1), -1);
        }
    }

    /** Tab 0: frame 0 at a, in it 1 at b, in that 2 at c, in that 3 at d; tab 1: frame 4 at e, in it 5 at c. */
    private static Bench two() {
        Bench b = at("http://a/");
        b.committedChild(0, "http://b/");
        b.committedChild(1, "http://c/");
        b.committedChild(2, "http://d/");
        b.committed("http://e/");
        b.committedChild(4, "http://c/");
        b.clear();
        return b;
    }

    /** "NONE, and message 6, if f is not committed" */
    private static void navigateNotCommitted() {
        Bench b = two();
        Bench.same("a child", b.child(0, "x"), 6);
        b.clear();
        for (int g = 0; g < 7; g++) {
            int any = g;
            b.refuses("f is not committed", -1, "6 6 2 ", c -> c.navigate(6, any, "http://a/"));
            b.refuses("f is not committed, no address", -1, "6 6 2 ", c -> c.navigate(6, any, ":"));
        }
        b.refuses("g is not, and of another", -1, "6 5 2 ", c -> c.navigate(5, 6, "x"));
        Bench.same("g is not, but a frame around it is", b.navigate(0, 6, "x"), 0);
        Bench one = at("http://a/");
        one.open("http://a/");
        one.clear();
        one.refuses("a top under way there", -1, "6 0 2 ", c -> c.navigate(0, 1, "x"));
        one.refuses("nor by itself", -1, "6 1 2 ", c -> c.navigate(1, 1, "http://x/"));
    }

    /** "g is neither f nor a TOP of f's tab" */
    private static void itselfAndItsTop() {
        for (int f = 0; f < 6; f++) {
            Bench.same("itself", two().navigate(f, f, "x"), 0);
            Bench.same("its top", two().navigate(f, f < 4 ? 0 : 4, "x"), 0);
            int any = f;
            two().refuses("another's top", -1, "6 " + f + " 2 ", c -> c.navigate(any, any < 4 ? 4 : 0, "x"));
        }
        two().refuses("its parent", -1, "6 3 2 ", c -> c.navigate(3, 2, "x"));
        two().refuses("its parent's parent", -1, "6 3 2 ", c -> c.navigate(3, 1, "x"));
        two().refuses("its parent, no address", -1, "6 3 2 ", c -> c.navigate(3, 2, ":"));
    }

    /** "and neither g nor a frame around it is committed with f's origin (2)" */
    private static void framesAround() {
        for (int g = 1; g < 4; g++) {
            Bench.same("inside it: " + g, two().navigate(0, g, "x"), 0);
        }
        Bench.same("inside it", two().navigate(1, 3, "x"), 0);
        Bench.same("another tab's, of one origin", two().navigate(5, 2, "x"), 0);
        Bench.same("inside one of one origin", two().navigate(5, 3, "x"), 0);
        Bench.same("another tab's, of one origin", two().navigate(2, 5, "x"), 0);
        two().refuses("around one of one origin", -1, "6 5 2 ", c -> c.navigate(5, 1, "x"));
        two().refuses("of another origin", -1, "6 0 2 ", c -> c.navigate(0, 5, "x"));
        two().refuses("of another origin", -1, "6 3 2 ", c -> c.navigate(3, 5, "x"));
        Bench b = two();
        b.go(4, "http://a/");
        b.clear();
        b.refuses("its child is gone", -1, "6 2 2 ", c -> c.navigate(2, 4, "x"));
        Bench.same("of one origin now", b.navigate(0, 4, "x"), 0);
        b.clear();
        Bench.same("under way is not committed", b.navigate(4, 0, "http://z/"), 1);
        Bench.same("so it is of one origin still", b.navigate(4, 0, "x"), 1);
    }

    /** "with f's origin": scheme, host and port. */
    private static void originsThatMatch() {
        String[] others = {"https://a/", "http://a:81/", "http://b/", "http://a.a/", "https://a:80/", "http://a:443/"};
        for (String other : others) {
            Bench b = at("http://a/");
            b.committed(other);
            b.clear();
            b.refuses(other, -1, "6 0 2 ", c -> c.navigate(0, 1, "x"));
            b.refuses(other, -1, "6 1 2 ", c -> c.navigate(1, 0, "x"));
        }
        for (String own : new String[] {"http://a/y?z", "HTTP://A:80", "http://a:80/"}) {
            Bench b = at("http://a/");
            b.committed(own);
            Bench.same(own, b.navigate(0, 1, "/x"), 0);
            Bench.same(own, b.navigate(1, 0, "/x"), 1);
        }
    }

    /** "if it is no such address (1)" */
    private static void navigateNoAddress() {
        Bench b = two();
        for (String none : new String[] {":", " ", "//", "http://", "p".repeat(52)}) {
            b.refuses("no such address: " + none, -1, "6 0 1 ", c -> c.navigate(0, 0, none));
            b.refuses("no such address: " + none, -1, "6 0 1 ", c -> c.navigate(0, 3, none));
            b.refuses("no such address: " + none, -1, "6 3 1 ", c -> c.navigate(3, 0, none));
        }
        Bench.same("just so long", b.navigate(0, 0, "p".repeat(51)), 0);
    }

    /** "if there is no room (3)" */
    private static void navigateWithoutRoom() {
        Bench b = two();
        for (int i = 0; i < 23; i++) {
            b.fetch(0, 0, true, "");
        }
        Bench last = b.copy();
        Bench.same("the last one", last.navigate(0, 1, "x"), 23);
        last.clear();
        last.refuses("none for another frame", -1, "6 0 3 ", c -> c.navigate(0, 0, "x"));
        Bench.same("its number is free for that frame", last.navigate(1, 1, "y"), 23);
        b.fetch(0, 0, true, "");
        b.clear();
        b.refuses("no room", -1, "6 0 3 ", c -> c.navigate(0, 0, "x"));
        b.refuses("no room", -1, "6 3 3 ", c -> c.navigate(3, 0, "x"));
        b.answer(9);
        Bench.same("room again", b.navigate(3, 0, "x"), 9);
    }

    /** "A NAVIGATION of a frame that is under way is forgotten when another one begins, and its number is free for that" */
    private static void anotherBegins() {
        Bench b = two();
        b.fetch(1, 1, true, "http://z/");
        Bench.same("begins", b.navigate(0, 1, "http://x/"), 1);
        Bench.same("another", b.navigate(1, 1, "y"), 1);
        Bench.same("its number is free", b.about(2, 5), -1);
        b.answer(0);
        Bench.same("a lesser number is free", b.navigate(0, 1, "w"), 0);
        Bench.same("it is forgotten", b.about(1, 5), -1);
        b.throwsOn("it is forgotten", "t", 0, c -> c.answer(1));
        Bench.same("one of another frame stays", b.navigate(0, 2, "v"), 1);
        Bench.same("it stays", b.about(1, 4), 0);
        b.focus(0);
        Bench.same("enter", b.enter("http://q/"), 2);
        Bench.same("navigate forgets what enter began", b.navigate(0, 0, "r"), 2);
        Bench.same("enter forgets what navigate began", b.enter("http://s/"), 2);
        Bench.same("none other", b.about(3, 5), -1);
        b.clear();
        b.answer(2, "t");
        Bench.same("the last one", b.messages(), "2 0 0 http://s/|3 0 2 t");
        leadsBeginAnew();
    }

    private static void leadsBeginAnew() {
        Bench b = at("http://a/");
        b.navigate(0, 0, "x");
        for (int i = 0; i < 5; i++) {
            Bench.same("led on", b.lead(0, "y"), true);
        }
        b.navigate(0, 0, "x");
        for (int i = 0; i < 5; i++) {
            Bench.same("led on anew", b.lead(0, "y"), true);
        }
        Bench.same("the sixth", b.lead(0, "y"), false);
    }

    /** One that is refused begins none. */
    private static void refusedForgetsNone() {
        Bench b = two();
        b.navigate(0, 1, "http://x/");
        b.navigate(0, 0, "http://y/");
        b.clear();
        b.refuses("not allowed", -1, "6 4 2 ", c -> c.navigate(4, 1, "z"));
        b.refuses("no address", -1, "6 0 1 ", c -> c.navigate(0, 1, ":"));
        b.refuses("no address", -1, "6 0 1 ", c -> c.navigate(0, 0, ":"));
        b.refuses("no address", -1, "6 3 1 ", c -> c.navigate(3, 0, ":"));
    }

    private static void navigateOrder() {
        Bench b = two();
        for (int i = 0; i < 24; i++) {
            b.fetch(0, 0, true, "");
        }
        b.clear();
        b.refuses("not allowed, no address, no room", -1, "6 0 2 ", c -> c.navigate(0, 4, ":"));
        b.refuses("not allowed, no room", -1, "6 0 2 ", c -> c.navigate(0, 4, "x"));
        b.refuses("no address, no room", -1, "6 0 1 ", c -> c.navigate(0, 1, ":"));
        b.refuses("no room", -1, "6 0 3 ", c -> c.navigate(0, 1, "x"));
    }
}
