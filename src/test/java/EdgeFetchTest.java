/** The edges of REQUESTS and of promises 11 (fetch), 12 (answer), 14 (leave) and 15 (lead), sentence by sentence. */
public final class EdgeFetchTest {
    public static void main(String[] args) {
        fetchNotCommitted();
        modes();
        fetchNoAddress();
        ownOriginAlone();
        twentyFourRequests();
        fetchOrder();
        answeredIsOver();
        bodies();
        navigationIsCommitted();
        ownOriginIsSeen();
        leaveForAll();
        leaveForTheOrigin();
        otherTextsAreNoLeave();
        theLastLeaveCounts();
        leaveWithoutUse();
        headsAreForgotten();
        leadOfModeZero();
        leadToNoAddress();
        theSixthLead();
        leadThatFails();
        leadKeepsTheRest();
        Bench.end();
    }

    private static Bench at(String address) {
        Bench b = new Bench();
        b.committed(address);
        b.clear();
        return b;
    }

    /** "NONE, and message 6, if f is not committed" */
    private static void fetchNotCommitted() {
        Bench b = new Bench();
        b.open("http://a/");
        b.clear();
        for (int mode = -1; mode <= 3; mode++) {
            int any = mode;
            b.refuses("not committed", -1, "6 0 2 ", c -> c.fetch(0, any, true, "http://a/"));
            b.refuses("not committed", -1, "6 0 2 ", c -> c.fetch(0, any, false, ":"));
        }
        b.answer(0);
        Bench.same("committed", b.fetch(0, 0, true, "http://a/"), 0);
        b.enter("http://b/");
        Bench.same("committed, and another under way", b.fetch(0, 0, true, "x"), 2);
    }

    /** "or there is no such mode (2)" */
    private static void modes() {
        Bench b = at("http://a/");
        for (int none : new int[] {-1, 3, 4, 256, 257, 65536, Integer.MIN_VALUE, Integer.MAX_VALUE}) {
            b.refuses("mode " + none, -1, "6 0 2 ", c -> c.fetch(0, none, true, "x"));
            b.refuses("mode " + none, -1, "6 0 2 ", c -> c.fetch(0, none, false, "http://b/"));
            b.refuses("mode " + none, -1, "6 0 2 ", c -> c.fetch(0, none, false, ":"));
        }
        for (int mode = 0; mode <= 2; mode++) {
            Bench.same("mode " + mode, b.fetch(0, mode, true, "x"), mode);
        }
        Bench.same("messages", b.messages(), "1 0 0 http://a/x|1 1 0 http://a/x|1 2 0 http://a/x");
    }

    /** "it is no such address (1)" */
    private static void fetchNoAddress() {
        Bench b = at("http://a/");
        for (int mode = 0; mode <= 2; mode++) {
            int any = mode;
            for (String none : new String[] {":", " ", "//", "http://", "p".repeat(52), "http://b:65536/"}) {
                b.refuses("no such address " + none, -1, "6 0 1 ", c -> c.fetch(0, any, true, none));
            }
            Bench.same("just so long", b.copy().fetch(0, mode, true, "p".repeat(51)), 0);
        }
    }

    /** "mode 0 of its own origin alone"; "or, with mode 0, of another origin (2)" */
    private static void ownOriginAlone() {
        Bench b = at("http://a/x");
        for (String other : new String[] {"https://a/", "http://a:81/", "http://b/", "//b/", "http://b.a/", "http://a.b/", "http://a:443/"}) {
            b.refuses("mode 0 to " + other, -1, "6 0 2 ", c -> c.fetch(0, 0, true, other));
            b.refuses("mode 0 to " + other, -1, "6 0 2 ", c -> c.fetch(0, 0, false, other));
            Bench.same("mode 1 to " + other, b.copy().fetch(0, 1, true, other), 0);
            Bench.same("mode 2 to " + other, b.copy().fetch(0, 2, true, other), 0);
        }
        for (String own : new String[] {"", "#r", "y", "/", "?q", "//a", "//A:80", "http://a", "HTTP://A:80/z"}) {
            Bench.same("mode 0 to " + own, b.copy().fetch(0, 0, true, own), 0);
        }
    }

    private static Bench fetching(int count) {
        Bench b = at("http://a/");
        for (int i = 0; i < count; i++) {
            Bench.same("the least number", b.fetch(0, i % 3, true, ""), i);
        }
        b.clear();
        return b;
    }

    /** "REQUESTS 0 .. 23 (the least number that is free)"; "or there is no room (3)" */
    private static void twentyFourRequests() {
        Bench b = fetching(23);
        Bench.same("the last one", b.fetch(0, 0, true, ""), 23);
        b.clear();
        for (int mode = 0; mode <= 2; mode++) {
            int any = mode;
            b.refuses("no room", -1, "6 0 3 ", c -> c.fetch(0, any, true, "x"));
        }
        for (int free = 0; free < 24; free++) {
            Bench other = b.copy();
            other.answer(free);
            Bench.same("the one that is free", other.fetch(0, 1, true, "x"), free);
            other.clear();
            other.refuses("no room again", -1, "6 0 3 ", c -> c.fetch(0, 0, true, ""));
        }
        b.answer(20);
        b.answer(3);
        b.answer(12);
        Bench.same("the least of three", b.fetch(0, 0, true, ""), 3);
        Bench.same("then", b.fetch(0, 0, true, ""), 12);
        Bench.same("then", b.fetch(0, 0, true, ""), 20);
        Bench mixed = fetching(21);
        mixed.child(0, "x");
        mixed.open("http://b/");
        mixed.enter("http://b/");
        Bench.same("navigations count too", mixed.fetch(0, 0, true, ""), 23);
        mixed.clear();
        mixed.refuses("no room", -1, "6 0 3 ", c -> c.fetch(0, 0, true, ""));
    }

    private static void fetchOrder() {
        Bench b = fetching(24);
        b.refuses("no mode, no address, no room", -1, "6 0 2 ", c -> c.fetch(0, 3, true, ":"));
        b.refuses("no mode, another origin, no room", -1, "6 0 2 ", c -> c.fetch(0, -1, true, "http://b"));
        b.refuses("no address, no room", -1, "6 0 1 ", c -> c.fetch(0, 0, true, ":"));
        b.refuses("another origin, no room", -1, "6 0 2 ", c -> c.fetch(0, 0, true, "http://b"));
        b.refuses("no room", -1, "6 0 3 ", c -> c.fetch(0, 1, true, "http://b"));
    }

    /** "a request r is answered by a text, and is over" */
    private static void answeredIsOver() {
        Bench b = at("http://a/");
        b.fetch(0, 0, true, "");
        b.fetch(0, 2, true, "http://b/");
        b.navigate(0, 0, "x");
        b.answer(0);
        b.throwsOn("seen", "t", 0, c -> c.answer(0));
        b.answer(1);
        b.throwsOn("not seen", "t", 0, c -> c.answer(1));
        b.throwsOn("set", "n=1", 0, c -> c.set(1));
        b.throwsOn("leave", "*", 0, c -> c.leave(1, true));
        b.throwsOn("lead", "x", 0, c -> c.lead(1));
        b.answer(2);
        b.throwsOn("committed", "t", 0, c -> c.answer(2));
        Bench.same("none under way", b.about(0, 4), -1);
    }

    /** "message 3 with the text": an empty one, and one as long as the line. */
    private static void bodies() {
        String longest = "b".repeat(159) + "e";
        for (String text : new String[] {"", " ", "t", "  a  b  ", longest}) {
            Bench b = at("http://a/");
            b.fetch(0, 0, true, "");
            b.navigate(0, 0, "x");
            b.clear();
            b.answer(0, text);
            b.answer(1, text);
            Bench.same("body", b.messages(), "3 0 0 " + text + "|2 0 0 http://a/x|3 0 1 " + text);
        }
    }

    /** "NAVIGATION: the frame is committed at the address, its FETCHES are forgotten, its children go (message 2), then message 3" */
    private static void navigationIsCommitted() {
        Bench b = at("http://a/");
        b.committedChild(0, "x");
        b.committedChild(1, "y");
        b.committed("http://b/");
        b.fetch(0, 0, true, "");
        b.fetch(1, 0, true, "");
        b.fetch(2, 0, true, "");
        b.fetch(3, 0, true, "");
        b.navigate(0, 0, "z");
        b.clear();
        b.answer(4, "t");
        Bench.same("messages", b.messages(), "2 0 0 http://a/z|3 0 4 t");
        for (int r = 0; r < 5; r++) {
            Bench.same("request " + r, b.about(r, 5), r == 3 ? 3 : -1);
        }
        for (int f = 0; f < 4; f++) {
            Bench.same("frame " + f, b.about(f, 3), f == 0 || f == 3 ? 1 : -1);
        }
        b.throwsOn("its fetch", "t", 0, c -> c.answer(0));
        Bench first = new Bench();
        first.open("http://c/");
        first.clear();
        first.answer(0);
        Bench.same("the first time", first.messages(), "2 0 0 http://c/|3 0 0 ");
        Bench inner = at("http://a/");
        inner.open("http://b/");
        inner.answer(0);
        inner.committedChild(1, "http://c/");
        inner.clear();
        inner.go(2, "w");
        Bench.same("a child's tab", inner.messages(), "1 0 2 http://c/w|2 2 1 http://c/w|3 2 0 ");
    }

    private static String replied(Bench from, int mode, boolean with, String address, String leave, boolean told) {
        Bench b = from.copy();
        int r = b.fetch(0, mode, with, address);
        b.leave(r, told, leave);
        b.clear();
        b.answer(r, "secret");
        return b.messages();
    }

    private static final String SEEN = "3 0 0 secret";
    private static final String UNSEEN = "4 0 0 ";

    /** "message 3, if the request's address is of the origin that asks (whatever the mode)" */
    private static void ownOriginIsSeen() {
        Bench b = at("http://a.com/x");
        for (int mode = 0; mode <= 2; mode++) {
            for (String leave : new String[] {"", "*", "http://b.com", "http://a.com"}) {
                Bench.same("mode " + mode, replied(b, mode, true, "y", leave, false), SEEN);
                Bench.same("mode " + mode, replied(b, mode, false, "HTTP://A.com:80/", leave, true), SEEN);
            }
        }
        for (String other : new String[] {"https://a.com/x", "http://a.com:81/x", "http://x.a.com/x", "http://com/x"}) {
            Bench.same("mode 1 of " + other, replied(b, 1, true, other, "", true), UNSEEN);
            Bench.same("mode 2 of " + other, replied(b, 2, true, other, "", true), UNSEEN);
        }
    }

    /** "or the mode is 1 and LEAVE was told: for *, if it was without cookies" */
    private static void leaveForAll() {
        Bench b = at("http://a.com/x");
        for (boolean told : new boolean[] {false, true}) {
            Bench.same("without cookies", replied(b, 1, false, "http://b.com", "*", told), SEEN);
            Bench.same("with cookies", replied(b, 1, true, "http://b.com", "*", told), UNSEEN);
            Bench.same("mode 2", replied(b, 2, false, "http://b.com", "*", told), UNSEEN);
            Bench.same("mode 2", replied(b, 2, true, "http://b.com", "*", told), UNSEEN);
        }
    }

    /** "or for just that origin, and, if with cookies, with them" */
    private static void leaveForTheOrigin() {
        Bench b = at("http://a.com/x");
        for (String own : new String[] {"http://a.com", "HTTP://A.com:80/y?z#w"}) {
            Bench.same("without cookies", replied(b, 1, false, "http://b.com", own, false), SEEN);
            Bench.same("without cookies", replied(b, 1, false, "http://b.com", own, true), SEEN);
            Bench.same("with cookies, told so", replied(b, 1, true, "http://b.com", own, true), SEEN);
            Bench.same("with cookies", replied(b, 1, true, "http://b.com", own, false), UNSEEN);
            Bench.same("mode 2", replied(b, 2, true, "http://b.com", own, true), UNSEEN);
            Bench.same("mode 2", replied(b, 2, false, "http://b.com", own, true), UNSEEN);
        }
        for (String other : new String[] {"https://a.com", "http://a.com:81", "http://b.com", "http://x.a.com", "http://com", "https://a.com:80"}) {
            Bench.same("for " + other, replied(b, 1, false, "http://b.com", other, true), UNSEEN);
            Bench.same("for " + other, replied(b, 1, true, "http://b.com", other, true), UNSEEN);
        }
    }

    /** "any other text: no leave" */
    private static void otherTextsAreNoLeave() {
        Bench b = at("http://a.com/x");
        for (String none : new String[] {"", " ", "**", "* ", " *", "*.com", "/", "//a.com", "/x", "x", "a.com", "null", "http://", "http://a.com ",
            "http://a.com:0", "http://a.com/ http://b.com/", "http://a.com/" + "p".repeat(48)}) {
            Bench.same("told <" + none + ">", replied(b, 1, false, "http://b.com", none, true), UNSEEN);
            Bench.same("told <" + none + ">", replied(b, 1, true, "http://b.com", none, true), UNSEEN);
        }
    }

    private static String repliedTwice(boolean with, String one, boolean withOne, String two, boolean withTwo) {
        Bench b = at("http://a.com/");
        b.fetch(0, 1, with, "http://b.com");
        b.leave(0, withOne, one);
        b.leave(0, withTwo, two);
        b.clear();
        b.answer(0, "secret");
        return b.messages();
    }

    /** "The last one counts" */
    private static void theLastLeaveCounts() {
        String own = "http://a.com";
        Bench.same("any text takes it back", repliedTwice(false, "*", true, "", true), UNSEEN);
        Bench.same("any text takes it back", repliedTwice(true, own, true, "no", true), UNSEEN);
        Bench.same("another origin takes it back", repliedTwice(false, "*", true, "http://c.com", true), UNSEEN);
        Bench.same("another origin takes it back", repliedTwice(true, own, true, "http://c.com", true), UNSEEN);
        Bench.same("* takes it back", repliedTwice(true, own, true, "*", true), UNSEEN);
        Bench.same("without cookies takes it back", repliedTwice(true, own, true, own, false), UNSEEN);
        Bench.same("given", repliedTwice(true, own, false, own, true), SEEN);
        Bench.same("given", repliedTwice(true, "*", false, own, true), SEEN);
        Bench.same("given", repliedTwice(false, "", false, "*", false), SEEN);
        Bench.same("given", repliedTwice(false, "http://c.com", false, own, false), SEEN);
    }

    /** LEAVE of another request, and of a NAVIGATION, does nothing; a request of the same number has none. */
    private static void leaveWithoutUse() {
        Bench b = at("http://a.com/");
        b.fetch(0, 1, false, "http://b.com");
        b.fetch(0, 1, false, "http://b.com");
        b.leave(0, true, "*");
        b.clear();
        b.answer(1, "secret");
        Bench.same("another's", b.messages(), "4 0 1 ");
        b.answer(0, "secret");
        Bench.same("its own", b.messages(), SEEN);
        b.fetch(0, 1, false, "http://b.com");
        b.clear();
        b.answer(0, "secret");
        Bench.same("since it began", b.messages(), UNSEEN);
        b.navigate(0, 0, "http://c.com");
        b.leave(0, false, "nobody");
        b.clear();
        b.answer(0, "secret");
        Bench.same("a navigation", b.messages(), "2 0 0 http://c.com/|" + SEEN);
        Bench.same("no message of leave", b.messages(), "");
    }

    /** "heads are forgotten" */
    private static void headsAreForgotten() {
        for (String leave : new String[] {"*", "http://a.com"}) {
            Bench b = at("http://a.com/");
            b.fetch(0, 1, false, "http://b.com");
            b.leave(0, true, leave);
            b.set(0, "n=1");
            b.lead(0, "x");
            Bench again = b.copy();
            again.leave(0, true, leave);
            again.clear();
            again.answer(0, "secret");
            Bench.same("told again", again.messages(), SEEN);
            b.clear();
            b.answer(0, "secret");
            Bench.same("forgotten", b.messages(), UNSEEN);
        }
        Bench set = at("http://a.com/");
        set.fetch(0, 1, true, "http://b.com");
        set.set(0, "n=1");
        set.clear();
        set.lead(0, "x");
        Bench.same("a cookie was set at once", set.messages(), "1 0 0 http://b.com/x n=1");
    }

    /** "a FETCH of mode 0 that leads to another origin ... is answered by message 4 instead, and over" */
    private static void leadOfModeZero() {
        for (String other : new String[] {"https://a.com/", "http://a.com:81/", "//b.com", "http://x.a.com/"}) {
            for (int mode = 0; mode <= 2; mode++) {
                Bench b = at("http://a.com/");
                b.fetch(0, mode, true, "x");
                b.clear();
                Bench.same("mode " + mode + " to " + other, b.lead(0, other), mode != 0);
                Bench.same("over", b.about(0, 5), mode == 0 ? -1 : 0);
                Bench.same("message", b.message(0, 0), mode == 0 ? 4 : 1);
                Bench.same("one message", b.messageCount(), 1);
            }
        }
        Bench b = at("http://a.com/");
        b.fetch(0, 0, true, "x");
        for (String own : new String[] {"", "y", "/z", "?q", "HTTP://A.com:80"}) {
            Bench.same("mode 0 to " + own, b.lead(0, own), true);
        }
        b.clear();
        b.answer(0, "secret");
        Bench.same("seen", b.messages(), SEEN);
    }

    /** "or any with no such address"; "a NAVIGATION by message 6 with 1" */
    private static void leadToNoAddress() {
        for (String none : new String[] {":", " ", "//", "http://", "p".repeat(48), "http://b.com:0/"}) {
            for (int mode = 0; mode <= 2; mode++) {
                Bench b = at("http://a.com/");
                b.fetch(0, mode, true, "");
                b.clear();
                Bench.same("mode " + mode, b.lead(0, none), false);
                Bench.same("message 4", b.messages(), "4 0 0 ");
                b.throwsOn("over", "t", 0, c -> c.answer(0));
            }
            Bench b = at("http://a.com/");
            b.fetch(0, 0, true, "");
            b.navigate(0, 0, "");
            b.clear();
            Bench.same("navigation", b.lead(1, none), false);
            Bench.same("message 6", b.messages(), "6 0 1 ");
            b.throwsOn("over", "t", 0, c -> c.answer(1));
            Bench.same("the fetch stays", b.about(0, 6), 1);
        }
        Bench b = at("http://a.com/");
        b.fetch(0, 0, true, "");
        Bench.same("just so long", b.lead(0, "p".repeat(47)), true);
    }

    /** "or the sixth that leads on"; "or, if there is such an address, 2" */
    private static void theSixthLead() {
        for (int mode = -1; mode <= 2; mode++) {
            Bench b = at("http://a.com/");
            int r = mode < 0 ? b.navigate(0, 0, "") : b.fetch(0, mode, false, "");
            for (int i = 1; i <= 5; i++) {
                b.clear();
                Bench.same("lead " + i, b.lead(r, "p" + i), true);
                Bench.same("message 1", b.messages(), "1 0 0 http://a.com/p" + i);
                Bench.same("the same request", b.about(r, 6), mode < 0 ? 0 : 1);
            }
            Bench fine = b.copy();
            fine.answer(r, "secret");
            Bench.same("five are fine", fine.messages(), (mode < 0 ? "2 0 0 http://a.com/p5|" : "") + SEEN);
            sixth(b, r, "p6", mode < 0 ? "6 0 2 " : UNSEEN);
            sixth(b, r, "", mode < 0 ? "6 0 2 " : UNSEEN);
            sixth(b, r, "http://b.com/", mode < 0 ? "6 0 2 " : UNSEEN);
            sixth(b, r, ":", mode < 0 ? "6 0 1 " : UNSEEN);
        }
    }

    private static void sixth(Bench from, int r, String text, String want) {
        Bench b = from.copy();
        Bench.same("the sixth", b.lead(r, text), false);
        Bench.same("message", b.messages(), want);
        b.throwsOn("over", "x", 0, c -> c.lead(r));
        Bench.same("its number is free", b.fetch(0, 1, true, ""), r);
        Bench.same("it is led on anew", b.lead(r, ""), true);
    }

    /** A NAVIGATION that is over so leaves its frame where it was. */
    private static void leadThatFails() {
        Bench b = at("http://a.com/");
        b.committedChild(0, "x");
        b.navigate(0, 1, "http://b.com/");
        b.clear();
        Bench.same("fails", b.lead(0, ":"), false);
        Bench.same("message 6 of its frame", b.messages(), "6 1 1 ");
        Bench.same("committed", b.about(1, 3), 1);
        Bench.same("its address", b.post(0, 1, 1, "/"), true);
        Bench first = new Bench();
        first.open("http://a.com/");
        Bench.same("fails", first.lead(0, ":"), false);
        Bench.same("the tab stays", first.about(0, 0), 0);
        Bench.same("not committed", first.about(0, 3), 0);
        Bench.same("none under way", first.about(0, 4), -1);
        Bench.same("begun again", first.enter("http://a.com/"), 0);
    }

    /** "the request becomes one for that": number, frame, kind, mode and cookies are the same. */
    private static void leadKeepsTheRest() {
        Bench b = at("http://a.com/");
        b.cookie(0, "n=1");
        b.fetch(0, 1, true, "http://b.com/x/y");
        b.fetch(0, 1, false, "http://b.com/x/y");
        b.clear();
        b.lead(0, "../z?q");
        b.lead(1, "//a.com");
        b.lead(0, "http://a.com");
        Bench.same("messages", b.messages(), "1 0 0 http://b.com/z?q|1 1 0 http://a.com/|1 0 0 http://a.com/ n=1");
        b.answer(0, "secret");
        b.answer(1, "secret");
        Bench.same("of the origin that asks now", b.messages(), "3 0 0 secret|3 0 1 secret");
        b.fetch(0, 1, true, "x");
        b.lead(0, "http://b.com");
        b.clear();
        b.answer(0, "secret");
        Bench.same("of another origin now", b.messages(), UNSEEN);
        b.fetch(0, 1, false, "x");
        b.lead(0, "http://b.com");
        b.leave(0, false, "http://a.com");
        b.clear();
        b.answer(0, "secret");
        Bench.same("the origin that asks is the frame's", b.messages(), SEEN);
    }
}
