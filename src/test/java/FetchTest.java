/** Promise 11 (fetch), 12 (answer), 14 (leave), 15 (lead). */
public final class FetchTest {
    public static void main(String[] args) {
        fetching();
        fetchOrder();
        withCookies();
        ownOrigin();
        byLeave();
        leaveCounts();
        unseen();
        leading();
        leadingFetches();
        leadingNavigations();
        sixthLead();
        Bench.end();
    }

    private static Bench at(String address) {
        Bench b = new Bench();
        b.committed(address);
        b.messages();
        return b;
    }

    private static void fetching() {
        Bench b = at("http://a/x/y");
        Bench.same("own", b.fetch(0, 0, false, "z"), 0);
        Bench.same("by leave", b.fetch(0, 1, false, "http://b"), 1);
        Bench.same("unseen", b.fetch(0, 2, true, "//c/?"), 2);
        Bench.same("messages", b.messages(), "1 0 0 http://a/x/z|1 1 0 http://b/|1 2 0 http://c/?");
        Bench.same("a fetch", b.about(2, 6), 1);
        Bench.same("no navigation", b.about(0, 4), -1);
        b.answer(1, "");
        Bench.same("least number that is free", b.fetch(0, 0, false, ""), 1);
        b.messages();
        Bench.same("mode -1", b.fetch(0, -1, false, "z"), -1);
        Bench.same("mode 3", b.fetch(0, 3, false, "z"), -1);
        Bench.same("no address", b.fetch(0, 1, false, "z z"), -1);
        Bench.same("another origin", b.fetch(0, 0, false, "https://a/"), -1);
        Bench.same("another origin", b.fetch(0, 0, false, "http://a:81/"), -1);
        Bench.same("another origin", b.fetch(0, 0, false, "//b.a/"), -1);
        Bench.same("messages 6", b.messages(), "6 0 2 |6 0 2 |6 0 1 |6 0 2 |6 0 2 |6 0 2 ");
        Bench.same("own origin", b.fetch(0, 0, false, "HTTP://A:80/q"), 3);
        b.open("http://d");
        b.messages();
        Bench.same("not committed", b.fetch(1, 1, false, "http://d"), -1);
        Bench.same("message 6", b.messages(), "6 1 2 ");
    }

    private static void fetchOrder() {
        Bench b = at("http://a");
        for (int i = 0; i < 24; i++) {
            b.fetch(0, i % 3, false, "");
        }
        b.messages();
        b.fetch(0, 4, false, ":");
        b.fetch(0, 0, false, ":");
        b.fetch(0, 0, false, "//b");
        b.fetch(0, 1, false, "//b");
        Bench.same("the first that holds", b.messages(), "6 0 2 |6 0 1 |6 0 2 |6 0 3 ");
    }

    private static void withCookies() {
        Bench b = at("http://a/");
        b.cookie(0, "n=1");
        b.fetch(0, 0, false, "");
        b.fetch(0, 0, true, "");
        b.fetch(0, 2, true, "");
        b.fetch(0, 1, true, "//b");
        Bench.same("messages", b.messages(), "1 0 0 http://a/|1 1 0 http://a/ n=1|1 2 0 http://a/ n=1|1 3 0 http://b/");
        b.set(0, "z=0");
        b.set(1, "h=2; httponly");
        b.set(3, "o=3");
        Bench.same("one without cookies sets none", b.about(0, 8), 3);
        b.fetch(0, 1, true, "//b");
        b.enter("http://a");
        b.child(0, "/x");
        Bench.same("messages", b.messages(), "1 4 0 http://b/ o=3|1 5 0 http://a/ n=1; h=2|1 6 1 http://a/x n=1; h=2");
    }

    private static String answered(Bench b, int r) {
        b.messages();
        b.answer(r, "secret");
        Bench.same("over", b.about(r, 5), -1);
        return b.messages();
    }

    private static void ownOrigin() {
        Bench b = at("http://a/");
        for (int mode = 0; mode < 3; mode++) {
            Bench.same("mode " + mode, answered(b, b.fetch(0, mode, true, "x")), "3 0 0 secret");
            Bench.same("mode " + mode, answered(b, b.fetch(0, mode, false, "x")), "3 0 0 secret");
        }
        int r = b.fetch(0, 0, true, "");
        int later = b.fetch(0, 0, true, "");
        b.answer(r, "x");
        Bench.same("numbers", answered(b, later), "3 0 1 secret");
        int kept = b.fetch(0, 0, true, "");
        b.enter("http://b");
        Bench.same("the origin that asked is still the frame's", answered(b, kept), "3 0 0 secret");
    }

    private static String byLeave(boolean with, boolean told, String leave) {
        Bench b = at("http://a.com/");
        int r = b.fetch(0, 1, with, "http://b.com/");
        b.leave(r, told, leave);
        return answered(b, r);
    }

    private static void byLeave() {
        String seen = "3 0 0 secret";
        String not = "4 0 0 ";
        for (int i = 0; i < 4; i++) {
            boolean with = i >= 2;
            boolean told = i % 2 == 1;
            String what = " with " + with + " told " + told;
            Bench.same("*" + what, byLeave(with, told, "*"), with ? not : seen);
            Bench.same("origin" + what, byLeave(with, told, "http://a.com"), with && !told ? not : seen);
            Bench.same("origin by an address" + what, byLeave(with, told, "HTTP://A.com:80/p?q#r"), with && !told ? not : seen);
            for (String other : new String[] {"", "**", " *", "* ", "/", "a.com", "//a.com", "null", "https://a.com",
                "http://a.com:81", "http://b.com", "http://x.a.com", "http://com", "http://a.com, http://b.com"}) {
                Bench.same(other + what, byLeave(with, told, other), not);
            }
        }
        Bench b = at("http://a.com/");
        Bench.same("no leave told", answered(b, b.fetch(0, 1, false, "http://b.com/")), not);
    }

    private static void leaveCounts() {
        Bench b = at("http://a.com/");
        int r = b.fetch(0, 1, true, "http://b.com/");
        b.leave(r, true, "http://a.com");
        b.leave(r, false, "http://a.com");
        Bench.same("the last one counts", answered(b, r), "4 0 0 ");
        r = b.fetch(0, 1, true, "http://b.com/");
        b.leave(r, true, "*");
        b.leave(r, true, "http://a.com");
        Bench.same("the last one counts", answered(b, r), "3 0 0 secret");
        r = b.fetch(0, 1, false, "http://b.com/");
        b.leave(r, true, "*");
        b.leave(r, true, "nobody");
        Bench.same("no leave any more", answered(b, r), "4 0 0 ");
        r = b.fetch(0, 1, false, "http://b.com/");
        b.leave(r, true, "*");
        b.leave(r, true, "http://c.com");
        Bench.same("* is forgotten", answered(b, r), "4 0 0 ");
        r = b.fetch(0, 1, false, "http://b.com/");
        Bench.same("a new one has no leave", answered(b, r), "4 0 0 ");
        Bench c = at("http://a.com/");
        int nav = c.navigate(0, 0, "//b.com");
        c.leave(nav, true, "nobody");
        Bench.same("a navigation needs none", answered(c, nav), "2 0 0 http://b.com/|3 0 0 secret");
    }

    private static void unseen() {
        Bench b = at("http://a.com/");
        int r = b.fetch(0, 2, false, "http://b.com/");
        b.leave(r, true, "*");
        Bench.same("mode 2", answered(b, r), "4 0 0 ");
        r = b.fetch(0, 2, false, "http://b.com/");
        b.leave(r, true, "http://a.com");
        Bench.same("mode 2", answered(b, r), "4 0 0 ");
    }

    private static void leading() {
        Bench b = at("http://a.com/x/");
        int r = b.fetch(0, 1, true, "http://b.com/p/q");
        b.leave(r, true, "http://a.com");
        b.set(r, "n=1; path=/");
        b.messages();
        Bench.same("led on", b.lead(r, "r"), true);
        Bench.same("by its own address", b.messages(), "1 0 0 http://b.com/p/r n=1");
        b.set(r, "m=2");
        Bench.same("heads are forgotten", answered(b, r), "4 0 0 ");
        Bench.same("cookies are not", b.about(0, 8), 2);
        r = b.fetch(0, 1, false, "http://b.com/");
        b.leave(r, true, "*");
        b.lead(r, "r");
        Bench.same("* too", answered(b, r), "4 0 0 ");
        r = b.fetch(0, 1, true, "http://b.com/");
        b.lead(r, "http://c.com");
        b.leave(r, true, "http://a.com");
        Bench.same("heads behind it", answered(b, r), "3 0 0 secret");
        r = b.fetch(0, 1, true, "http://b.com/");
        b.lead(r, "http://a.com");
        Bench.same("back to the origin that asks", answered(b, r), "3 0 0 secret");
        r = b.fetch(0, 2, true, "");
        b.lead(r, "http://b.com");
        Bench.same("away from it", answered(b, r), "4 0 0 ");
        r = b.fetch(0, 1, false, "http://b.com/p/");
        b.messages();
        b.lead(r, "");
        Bench.same("without cookies", b.messages(), "1 0 0 http://b.com/p/");
    }

    private static void leadingFetches() {
        Bench b = at("http://a.com/x");
        int r = b.fetch(0, 0, true, "");
        Bench.same("own origin", b.lead(r, "/y"), true);
        Bench.same("still there", b.about(r, 6), 1);
        b.messages();
        Bench.same("another origin", b.lead(r, "//b.com"), false);
        Bench.same("message 4", b.messages(), "4 0 0 ");
        Bench.same("over", b.about(r, 5), -1);
        Bench.throwsIndex("over", () -> b.lead(0, "/y"));
        for (int mode = 0; mode < 3; mode++) {
            r = b.fetch(0, mode, true, "");
            b.messages();
            Bench.same("no such address", b.lead(r, "a b"), false);
            Bench.same("message 4", b.messages(), "4 0 0 ");
            Bench.same("over", b.about(r, 5), -1);
        }
        for (int mode = 1; mode < 3; mode++) {
            r = b.fetch(0, mode, true, "");
            Bench.same("another origin, mode " + mode, b.lead(r, "//b.com"), true);
            b.answer(r, "");
        }
    }

    private static void leadingNavigations() {
        Bench b = new Bench();
        b.open("http://a.com/x?q");
        b.set(0, "n=1; domain=a.com");
        b.messages();
        Bench.same("led on", b.lead(0, "//b.a.com/?"), true);
        Bench.same("message 1", b.messages(), "1 0 0 http://b.a.com/? n=1");
        Bench.same("under way", b.about(0, 4), 0);
        b.set(0, "m=1");
        b.answer(0, "t");
        Bench.same("there", b.messages(), "2 0 0 http://b.a.com/?|3 0 0 t");
        Bench.same("cookie of the new address", b.cookiesOf(0), "n=1; m=1");
        b.navigate(0, 0, "http://c.com");
        b.messages();
        Bench.same("no such address", b.lead(0, "?a b"), false);
        Bench.same("message 6", b.messages(), "6 0 1 ");
        Bench.same("over", b.about(0, 4), -1);
        Bench.same("stays where it was", b.barText(), "http://b.a.com/?");
    }

    private static void sixthLead() {
        Bench b = at("http://a.com/");
        for (int mode = 0; mode < 3; mode++) {
            int r = b.fetch(0, mode, false, "");
            for (int i = 1; i <= 5; i++) {
                Bench.same("lead " + i, b.lead(r, "/" + i), true);
            }
            b.messages();
            Bench.same("the sixth", b.lead(r, "/6"), false);
            Bench.same("message 4", b.messages(), "4 0 0 ");
            Bench.same("over", b.about(r, 5), -1);
        }
        sixthLeadOfNavigation(b, "/6", "6 0 2 ");
        sixthLeadOfNavigation(b, "6 6", "6 0 1 ");
        int r = b.fetch(0, 0, false, "");
        for (int i = 1; i <= 5; i++) {
            b.lead(r, "/" + i);
        }
        Bench.same("answered behind the fifth", answered(b, r), "3 0 0 secret");
    }

    private static void sixthLeadOfNavigation(Bench b, String last, String want) {
        int r = b.navigate(0, 0, "/n");
        for (int i = 1; i <= 5; i++) {
            Bench.same("lead " + i, b.lead(r, "http://x" + i + ".com"), true);
        }
        b.messages();
        Bench.same("the sixth", b.lead(r, last), false);
        Bench.same("message 6", b.messages(), want);
        Bench.same("over", b.about(0, 4), -1);
    }
}
