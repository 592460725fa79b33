/** The edges of TABS and of promises 5 (open), 6 (close), 7 (focus), 8 (enter) and 21 (bar), sentence by sentence. */
public final class EdgeTabTest {
    public static void main(String[] args) {
        openNone();
        fourTabs();
        leastFreeTab();
        noRoomForAFrame();
        noRoomForARequest();
        roomForOneOfEach();
        openIsFocused();
        closeTakesAllAlong();
        closeAndFocus();
        closeLeavesTheRest();
        oneIsFocused();
        enterNone();
        enterWithoutFocus();
        enterWithoutRoom();
        enterForgets();
        barIsEmpty();
        barIsCommitted();
        Bench.end();
    }

    /** "NONE if it is none" */
    private static void openNone() {
        Bench b = new Bench();
        b.committed("http://a.com/x");
        for (String none : new String[] {"", " ", "a.com", "//a.com", "/x", "?q", "#r", "http://", "http://a.com/ ", "http://a.com:0/"}) {
            new Bench().refuses("in a new one: " + none, -1, "", c -> c.open(none));
            b.refuses("behind another: " + none, -1, "", c -> c.open(none));
        }
    }

    private static Bench opened(int count) {
        Bench b = new Bench();
        for (int i = 0; i < count; i++) {
            Bench.same("tab", b.open("http://t" + i), i);
        }
        return b;
    }

    /** "TABS 0 .. 3"; "NONE if ... there is no room for a tab" */
    private static void fourTabs() {
        opened(4).refuses("a fifth", -1, "", c -> c.open("http://a"));
        Bench b = opened(3);
        Bench.same("a fourth", b.open("http://a"), 3);
        Bench.same("its top", b.about(3, 0), 3);
        Bench.same("no tab 4", b.about(4, 0), -1);
        b.refuses("a fifth", -1, "", c -> c.open("http://a"));
        b.refuses("no address", -1, "", c -> c.open("a"));
    }

    /** "New tabs and frames get the least number that is free." */
    private static void leastFreeTab() {
        for (int gone = 0; gone < 4; gone++) {
            Bench b = opened(4);
            b.close(gone);
            b.clear();
            Bench.same("least", b.open("http://a"), gone);
            Bench.same("so the frame and the request", b.messages(), "1 " + gone + " " + gone + " http://a/");
            b.refuses("no room any more", -1, "", c -> c.open("http://a"));
        }
        Bench b = opened(4);
        b.close(3);
        b.close(1);
        Bench.same("least of two", b.open("http://a"), 1);
        Bench.same("then the other", b.open("http://a"), 3);
        Bench c = opened(2);
        c.answer(0);
        c.child(0, "x");
        c.close(1);
        Bench.same("tab 1", c.open("http://a"), 1);
        Bench.same("frame 1", c.about(1, 0), 1);
        c.close(0);
        Bench.same("tab 0", c.open("http://a"), 0);
        Bench.same("frame 0", c.about(0, 0), 0);
    }

    /** Frame 0 with so many children; all are committed. */
    private static Bench family(int children) {
        Bench b = new Bench();
        b.committed("http://a");
        for (int i = 0; i < children; i++) {
            b.committedChild(0, "x");
        }
        b.clear();
        return b;
    }

    /** "FRAMES 0 .. 15"; "NONE if ... there is no room for a ... frame" */
    private static void noRoomForAFrame() {
        family(15).refuses("a seventeenth frame", -1, "", c -> c.open("http://a"));
        Bench b = family(14);
        Bench.same("the sixteenth frame", b.open("http://a"), 1);
        Bench.same("is 15", b.about(1, 0), 15);
        b.refuses("a seventeenth frame", -1, "", c -> c.open("http://a"));
        b.close(1);
        Bench.same("room again", b.open("http://a"), 1);
        Bench.same("is 15", b.about(1, 0), 15);
    }

    /** So many fetches of frame 0. */
    private static Bench fetching(int count) {
        Bench b = new Bench();
        b.committed("http://a");
        for (int i = 0; i < count; i++) {
            Bench.same("request", b.fetch(0, 0, true, ""), i);
        }
        b.clear();
        return b;
    }

    /** "REQUESTS 0 .. 23 (the least number that is free)"; "NONE if ... there is no room for a ... request" */
    private static void noRoomForARequest() {
        fetching(24).refuses("a 25th request", -1, "", c -> c.open("http://a"));
        Bench b = fetching(23);
        Bench.same("the 24th request", b.open("http://a"), 1);
        Bench.same("is 23", b.about(1, 4), 23);
        b.refuses("a 25th request", -1, "", c -> c.open("http://a"));
        b.answer(7);
        b.answer(5);
        Bench.same("room again", b.open("http://a"), 2);
        Bench.same("the least", b.about(2, 4), 5);
        Bench.same("room again", b.open("http://a"), 3);
        Bench.same("the next", b.about(3, 4), 7);
    }

    /** One tab, one frame and one request are free, and then none of them. */
    private static void roomForOneOfEach() {
        Bench b = family(12);
        b.open("http://b");
        b.open("http://c");
        for (int i = 2; i < 23; i++) {
            Bench.same("request", b.fetch(0, 0, true, ""), i);
        }
        Bench.same("the last of each", b.open("http://d"), 3);
        Bench.same("frame", b.about(3, 0), 15);
        Bench.same("request", b.about(15, 4), 23);
        b.refuses("no room for any", -1, "", c -> c.open("http://e"));
    }

    /** "a new tab, FOCUSED"; "At most one tab is FOCUSED." */
    private static void openIsFocused() {
        Bench b = new Bench();
        for (int i = 0; i < 4; i++) {
            b.open("http://a");
            Bench.same("the new one", b.about(0, 7), i);
        }
        b.focus(1);
        b.open("http://a");
        Bench.same("no new one", b.about(0, 7), 1);
        b.close(2);
        b.open("http://a");
        Bench.same("the new one", b.about(0, 7), 2);
    }

    /** "A tab goes, with its frames"; "A frame that goes takes its children along; REQUESTS of frames that are gone are forgotten." */
    private static void closeTakesAllAlong() {
        Bench b = new Bench();
        b.committed("http://a");
        b.committed("http://b");
        int f = 1;
        for (int i = 0; i < 4; i++) {
            f = b.committedChild(f, "x");
        }
        Bench.same("five deep", f, 5);
        Bench.same("beside", b.child(1, "y"), 6);
        Bench.same("fetch of the deepest", b.fetch(5, 0, true, ""), 1);
        Bench.same("fetch of the top", b.fetch(1, 0, true, ""), 2);
        Bench.same("navigation of the top", b.navigate(1, 1, ""), 3);
        Bench.same("the other tab's", b.fetch(0, 0, true, ""), 4);
        b.clear();
        b.close(1);
        for (int g = 1; g < 16; g++) {
            Bench.same("no frame " + g, b.about(g, 1), -1);
        }
        for (int r = 0; r < 24; r++) {
            Bench.same("request " + r, b.about(r, 5), r == 4 ? 0 : -1);
        }
        Bench.same("no message", b.messages(), "");
        Bench.same("a new tab", b.open("http://c"), 1);
        Bench.same("is not committed", b.about(1, 3), 0);
        Bench.same("has a new request", b.messages(), "1 0 1 http://c/");
        b.throwsOn("no child of it", "x", 0, c -> c.child(2));
    }

    /** "if it was FOCUSED none is" */
    private static void closeAndFocus() {
        for (int focused = 0; focused < 4; focused++) {
            for (int gone = 0; gone < 4; gone++) {
                Bench b = opened(4);
                b.focus(focused);
                b.close(gone);
                Bench.same("focused " + focused + ", closed " + gone, b.about(0, 7), focused == gone ? -1 : focused);
            }
        }
        Bench b = opened(2);
        b.close(1);
        b.close(0);
        Bench.same("none", b.about(0, 7), -1);
        b.open("http://a");
        Bench.same("the new one", b.about(0, 7), 0);
        b.close(0);
        b.refuses("none to enter", -1, "", c -> c.enter("http://a"));
    }

    private static void closeLeavesTheRest() {
        Bench b = new Bench();
        b.suffix("com");
        b.committed("http://a");
        b.cookie(0, "n=1");
        b.store(0, 3, 9);
        b.bar();
        b.close(0);
        Bench.same("cookies", b.cookieCount(), 1);
        Bench.same("messages", b.messageCount(), 3);
        Bench.same("suffixes", b.about(0, 10), 1);
        Bench.same("what was shown", b.shown(), "http://a/");
        b.committed("http://a");
        Bench.same("cookies", b.cookiesOf(0), "n=1");
        Bench.same("storage", b.stored(0, 3), 9);
    }

    private static void oneIsFocused() {
        Bench b = opened(4);
        for (int i : new int[] {0, 3, 3, 1, 2, 0}) {
            b.focus(i);
            Bench.same("focused", b.about(0, 7), i);
        }
        for (int none : new int[] {-1, 4, Integer.MIN_VALUE, Integer.MAX_VALUE}) {
            b.throwsOn("focus " + none, "kept", 4, c -> c.focus(none));
        }
        b.close(3);
        b.throwsOn("focus one that is gone", "kept", 4, c -> c.focus(3));
        Bench.same("focused as before", b.about(0, 7), 0);
    }

    /** "NONE if it is none" */
    private static void enterNone() {
        Bench b = new Bench();
        b.committed("http://a/x");
        b.clear();
        for (String none : new String[] {"", "a", "//a", "/x", "x", "?q", "#r", "http://", "http://a ", "http://a:65536"}) {
            b.refuses("none under way: " + none, -1, "", c -> c.enter(none));
        }
        b.enter("http://b");
        for (String none : new String[] {"", "a", "/x", "http://a:65536"}) {
            b.refuses("the one under way stays: " + none, -1, "", c -> c.enter(none));
        }
    }

    /** "there is no focused tab" */
    private static void enterWithoutFocus() {
        new Bench().refuses("no tab", -1, "", c -> c.enter("http://a"));
        Bench b = opened(2);
        b.close(1);
        b.refuses("none focused", -1, "", c -> c.enter("http://a"));
        b.focus(0);
        Bench.same("focused", b.enter("http://a"), 0);
        Bench.same("its top", b.about(0, 5), 0);
    }

    /** "or no room" */
    private static void enterWithoutRoom() {
        fetching(24).refuses("no room", -1, "", c -> c.enter("http://b"));
        Bench b = fetching(23);
        Bench.same("the last one", b.enter("http://b"), 23);
        Bench.same("its own number is free", b.enter("http://c"), 23);
        b.answer(11);
        Bench.same("the least number", b.enter("http://d"), 11);
        Bench.same("the other is free", b.about(23, 5), -1);
        Bench.same("for a fetch", b.fetch(0, 0, true, ""), 23);
        b.refuses("no room for a fetch", -1, "6 0 3 ", c -> c.fetch(0, 0, true, ""));
        Bench.same("its own number is free", b.enter("http://e"), 11);
    }

    /** "A NAVIGATION of a frame that is under way is forgotten when another one begins ... here and in enter()." */
    private static void enterForgets() {
        Bench b = new Bench();
        b.committed("http://a");
        b.committedChild(0, "x");
        b.fetch(0, 0, true, "");
        b.enter("http://b");
        for (int i = 0; i < 5; i++) {
            b.lead(1, "y");
        }
        Bench.same("again", b.enter("http://c"), 1);
        Bench.same("one navigation", b.about(2, 5), -1);
        Bench.same("fetches stay", b.about(0, 6), 1);
        Bench.same("children stay", b.about(1, 2), 0);
        Bench.same("it is led on anew", b.lead(1, "y"), true);
        b.clear();
        b.answer(1, "t");
        Bench.same("the last one is committed", b.messages(), "2 0 0 http://c/y|3 0 1 t");
    }

    /** "or \"\" (without a focused tab, or before its TOP is committed)" */
    private static void barIsEmpty() {
        Bench b = new Bench();
        Bench.same("no tab", b.bar(), 0);
        b.committed("http://a");
        Bench.same("committed", b.bar(), 9);
        b.open("http://b");
        Bench.same("not committed", b.bar(), 0);
        Bench.same("nothing is shown then", b.shown(0), -1);
        b.focus(0);
        Bench.same("committed", b.barText(), "http://a/");
        b.close(0);
        Bench.same("none focused", b.bar(), 0);
        Bench.same("nothing is shown then", b.shown(0), -1);
        b.lead(0, ":");
        b.focus(1);
        Bench.same("never committed", b.bar(), 0);
    }

    /** "the committed address of the FOCUSED tab's TOP" */
    private static void barIsCommitted() {
        Bench b = new Bench();
        b.committed("http://a/x?");
        b.enter("http://b");
        Bench.same("under way", b.barText(), "http://a/x?");
        b.lead(0, "http://c");
        Bench.same("led on", b.barText(), "http://a/x?");
        b.lead(0, ":");
        Bench.same("over", b.barText(), "http://a/x?");
        b.enter("http://d");
        b.answer(0);
        Bench.same("committed", b.barText(), "http://d/");
        b.committedChild(0, "http://e");
        Bench.same("not a child's", b.barText(), "http://d/");
        String sixty = "https://a:65535/" + "p".repeat(44);
        b.go(0, sixty);
        Bench.same("60 characters", b.bar(), 60);
        Bench.same("all of them", b.shown(), sixty);
    }
}
