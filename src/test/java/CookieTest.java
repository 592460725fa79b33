/** Promise 13 (set), 16 (cookies), 17 (cookie): COOKIES, SETTING and GOING WITH. */
public final class CookieTest {
    public static void main(String[] args) {
        pairs();
        attributes();
        domains();
        suffixes();
        paths();
        defaultPaths();
        secure();
        hidden();
        ages();
        sameOnes();
        lengths();
        order();
        quotas();
        sites();
        fortyInAll();
        commits();
        Bench.end();
    }

    /** What goes with an address when one cookie has been set there. */
    private static String alone(String address, String text) {
        Bench b = new Bench();
        int top = b.committed(address);
        Bench.same("cookie answers", b.cookie(top, text), true);
        return b.cookiesOf(top);
    }

    private static void pair(String text, String want) {
        Bench.same(text, alone("http://a.com/", text), want);
    }

    private static void pairs() {
        pair("a=b", "a=b");
        pair("  a b  =  c d  ", "a b=c d");
        pair("a=", "a=");
        pair("a=  ;", "a=");
        pair("a==b=", "a==b=");
        pair("a=b;", "a=b");
        pair("A=B;;;", "A=B");
        pair("", "");
        pair("a", "");
        pair("=b", "");
        pair("  =b", "");
        pair("=a=b", "");
        pair("a; b=c", "");
        pair(";a=b", "");
        pair("abcdefghijkl=abcdefghijkl", "abcdefghijkl=abcdefghijkl");
        pair("  abcdefghijkl  =  abcdefghijkl  ", "abcdefghijkl=abcdefghijkl");
        pair("abcdefghijklm=b", "");
        pair("a=abcdefghijklm", "");
    }

    private static void attributes() {
        pair("a=b; unknown; x=y; =z; =", "a=b");
        pair("a=b; max-age=0", "");
        pair("a=b;MAX-age=0", "");
        pair("a=b;  mAx-AGE  =  0  ", "");
        pair("a=b; max-age=0; max-age=5", "a=b");
        pair("a=b; max-age=5; max-age=0", "");
        pair("a=b; max-age=0; max-age=x", "");
        pair("a=b; max-age 0", "a=b");
        pair("a=b; path=/x; path=/", "a=b");
        pair("a=b; path=/; path=/x", "");
        pair("a=b; path=/x; path=y", "a=b");
        pair("a=b; path=/x; path=", "a=b");
        pair("a=b; path=/x; path", "a=b");
        pair("a=b; PATH = /x", "");
        pair("a=b; domain=b.com; domain=a.com", "a=b");
        pair("a=b; domain=a.com; domain=b.com", "");
        pair("a=b; domain=b.com; domain=", "");
        pair("a=b; domain=b.com; domain=.", "");
        pair("a=b; domain=b.com; domain", "");
        pair("a=b; domain=", "a=b");
        pair("a=b; domain=.", "a=b");
        pair("a=b; domain", "a=b");
        pair("a=b; Secure", "");
        pair("a=b; SECURE=no", "");
        pair("a=b; HttpOnly", "");
        pair("a=b; httponly=0", "");
        pair("a=b; secur", "a=b");
    }

    /** What goes with another host when one cookie has been set by a.b.com. */
    private static String elsewhere(String attribute, String host) {
        Bench b = new Bench();
        int top = b.committed("http://a.b.com/");
        b.cookie(top, "n=1; " + attribute);
        b.go(top, "http://" + host + "/");
        return b.cookiesOf(top);
    }

    private static void domains() {
        Bench.same("host alone", elsewhere("", "a.b.com"), "n=1");
        Bench.same("host alone", elsewhere("", "x.a.b.com"), "");
        Bench.same("host alone", elsewhere("", "b.com"), "");
        Bench.same("own host", elsewhere("domain=a.b.com", "a.b.com"), "n=1");
        Bench.same("own host, below", elsewhere("domain=a.b.com", "x.a.b.com"), "n=1");
        Bench.same("own host, above", elsewhere("domain=a.b.com", "b.com"), "");
        Bench.same("above", elsewhere("domain=b.com", "b.com"), "n=1");
        Bench.same("above, beside", elsewhere("domain=b.com", "c.b.com"), "n=1");
        Bench.same("above, no dot", elsewhere("domain=b.com", "cb.com"), "");
        Bench.same("dot in front", elsewhere("domain=.b.com", "c.b.com"), "n=1");
        Bench.same("great letters", elsewhere("DOMAIN=.B.Com", "c.b.com"), "n=1");
        Bench.same("another", elsewhere("domain=c.com", "a.b.com"), "");
        Bench.same("another", elsewhere("domain=c.com", "c.com"), "");
        Bench.same("below", elsewhere("domain=x.a.b.com", "x.a.b.com"), "");
        Bench.same("no dot ahead", elsewhere("domain=.com", "a.b.com"), "");
        Bench.same("a part of a label", elsewhere("domain=a.b.co", "a.b.com"), "");
        Bench.same("dot behind", elsewhere("domain=b.com.", "a.b.com"), "");
        Bench.same("one label", elsewhere("domain=com", "a.b.com"), "");
        Bench.same("port and scheme do not matter", elsewhere("", "a.b.com:81"), "n=1");
        Bench tail = new Bench();
        int top = tail.committed("http://ab.com");
        tail.cookie(top, "n=1; domain=b.com");
        Bench.same("not behind a dot", tail.about(0, 8), 0);
    }

    private static void suffixes() {
        Bench b = new Bench();
        b.suffix("co.uk");
        int top = b.committed("http://a.co.uk");
        b.cookie(top, "n=1; domain=co.uk");
        Bench.same("a suffix", b.about(0, 8), 0);
        b.cookie(top, "n=1; domain=a.co.uk");
        b.go(top, "http://co.uk");
        Bench.same("above", b.cookiesOf(top), "");
        b.cookie(top, "m=2; domain=.CO.uk");
        Bench.same("just that", b.cookiesOf(top), "m=2");
        b.go(top, "http://a.co.uk");
        Bench.same("for the host alone then", b.cookiesOf(top), "n=1");
        b.go(top, "http://localhost");
        b.cookie(top, "l=3; domain=localhost");
        Bench.same("one label", b.cookiesOf(top), "l=3");
        b.go(top, "http://x.localhost");
        Bench.same("for the host alone then", b.cookiesOf(top), "");
        b.cookie(top, "l=3; domain=localhost");
        Bench.same("one label is a suffix", b.cookiesOf(top), "");
    }

    private static String onPath(String cookiePath, String address) {
        Bench b = new Bench();
        int top = b.committed("http://a.com/");
        b.cookie(top, "n=1; path=" + cookiePath);
        b.go(top, "http://a.com" + address);
        return b.cookiesOf(top);
    }

    private static void paths() {
        Bench.same("same", onPath("/x", "/x"), "n=1");
        Bench.same("same, query", onPath("/x", "/x?q"), "n=1");
        Bench.same("/ follows", onPath("/x", "/x/"), "n=1");
        Bench.same("/ follows", onPath("/x", "/x/y"), "n=1");
        Bench.same("no / follows", onPath("/x", "/xy"), "");
        Bench.same("ends with /", onPath("/x/", "/x/y"), "n=1");
        Bench.same("ends with /, same", onPath("/x/", "/x/"), "n=1");
        Bench.same("ends with /, shorter", onPath("/x/", "/x"), "");
        Bench.same("root", onPath("/", "/x/y"), "n=1");
        Bench.same("great letters", onPath("/X", "/x"), "");
        Bench.same("longer", onPath("/x/y", "/x"), "");
        Bench.same("another", onPath("/y", "/x"), "");
        Bench.same("no path", onPath("x", "/y"), "n=1");
    }

    private static String byDefault(String setAt, String address) {
        Bench b = new Bench();
        int top = b.committed("http://a.com" + setAt);
        b.cookie(top, "n=1");
        b.go(top, "http://a.com" + address);
        return b.cookiesOf(top);
    }

    private static void defaultPaths() {
        Bench.same("up to the last /", byDefault("/x/y", "/x"), "n=1");
        Bench.same("up to the last /", byDefault("/x/y", "/x/z"), "n=1");
        Bench.same("up to the last /", byDefault("/x/y", "/"), "");
        Bench.same("up to the last /", byDefault("/x/", "/x"), "n=1");
        Bench.same("up to the last /", byDefault("/x/y/z", "/x"), "");
        Bench.same("empty", byDefault("/x", "/y"), "n=1");
        Bench.same("empty", byDefault("", "/y/z"), "n=1");
        Bench.same("a query has none", byDefault("/x?y/z", "/y"), "n=1");
    }

    private static void secure() {
        Bench b = new Bench();
        int top = b.committed("https://a.com");
        b.cookie(top, "s=1; secure");
        b.cookie(top, "t=2");
        Bench.same("https", b.cookiesOf(top), "s=1; t=2");
        b.go(top, "http://a.com");
        Bench.same("http", b.cookiesOf(top), "t=2");
        b.cookie(top, "t=3; secure");
        b.messages();
        int r = b.enter("http://a.com");
        Bench.same("nor by the network", b.messages(), "1 0 0 http://a.com/ t=2");
        b.set(r, "u=4; secure");
        Bench.same("nothing happens by http", b.about(0, 8), 2);
        b.set(r, "s=5");
        b.enter("https://a.com");
        Bench.same("one that is secure can go", b.messages(), "1 0 0 https://a.com/ s=5; t=2");
    }

    private static void hidden() {
        Bench b = new Bench();
        int top = b.committed("http://a.com");
        b.cookie(top, "h=1; httponly");
        Bench.same("not by a frame", b.about(0, 8), 0);
        int r = b.fetch(top, 0, true, "");
        b.set(r, "h=2; HttpOnly");
        b.set(r, "i=3");
        Bench.same("both", b.about(0, 8), 2);
        Bench.same("not to be seen", b.cookiesOf(top), "i=3");
        b.cookie(top, "h=4");
        b.cookie(top, "h=4; max-age=0");
        b.messages();
        b.enter("http://a.com");
        Bench.same("nor changed by a frame", b.messages(), "1 1 0 http://a.com/ h=2; i=3");
        b.cookie(top, "h=5; path=/x");
        Bench.same("another path is another cookie", b.about(0, 8), 3);
        b.cookie(top, "h=5; domain=a.com");
        Bench.same("the same domain is not", b.about(0, 8), 3);
        b.cookie(top, "i=6; httponly");
        Bench.same("nothing happened", b.cookiesOf(top), "i=3");
        b.set(r, "h=7");
        Bench.same("changed by the network", b.cookiesOf(top), "h=7; i=3");
        b.cookie(top, "h=8");
        Bench.same("it is not hidden any more", b.cookiesOf(top), "h=8; i=3");
        b.set(r, "j=9; httponly; max-age=5");
        b.pass(5);
        b.cookie(top, "j=10");
        Bench.same("one that is over hides nothing", b.cookiesOf(top), "h=8; i=3; j=10");
    }

    private static void ages() {
        Bench b = new Bench();
        int top = b.committed("http://a.com");
        b.pass(100);
        b.cookie(top, "a=1; max-age=3");
        b.cookie(top, "b=2; max-age=4");
        b.cookie(top, "c=3");
        b.pass(2);
        Bench.same("two passed", b.cookiesOf(top), "a=1; b=2; c=3");
        b.pass(1);
        Bench.same("three passed", b.cookiesOf(top), "b=2; c=3");
        Bench.same("counted", b.about(0, 8), 2);
        b.messages();
        b.fetch(top, 0, true, "");
        Bench.same("nor by the network", b.messages(), "1 0 0 http://a.com/ b=2; c=3");
        b.pass(1);
        Bench.same("four passed", b.cookiesOf(top), "c=3");
        b.cookie(top, "c=4; max-age=-1");
        Bench.same("below 0", b.cookiesOf(top), "");
        for (String over : new String[] {"0", "-0", "-1", "0000000", "-9999999"}) {
            pair("a=b; max-age=" + over, "");
        }
        for (String not : new String[] {"1", "0000001", "9999999", "", "-", "--1", "+0", "00000000", "-00000000", "0x", "0 0",
            "0.0", "- 0", "0-"}) {
            pair("a=b; max-age=" + not, "a=b");
        }
        Bench late = new Bench();
        int f = late.committed("http://a.com");
        late.pass(1000000000 - 9999999);
        late.cookie(f, "a=1; max-age=9999999");
        late.pass(9999998);
        Bench.same("not yet", late.cookiesOf(f), "a=1");
        late.cookie(f, "b=1; max-age=9999999");
        late.pass(1);
        Bench.same("then", late.cookiesOf(f), "b=1");
    }

    private static void sameOnes() {
        Bench b = new Bench();
        int top = b.committed("http://x.a.com/p/q");
        b.cookie(top, "a=1; path=/");
        b.cookie(top, "b=2; path=/");
        b.cookie(top, "c=3; path=/");
        b.cookie(top, "a=4; path=/");
        Bench.same("it has its number", b.cookiesOf(top), "a=4; b=2; c=3");
        b.cookie(top, "b=5; path=/; max-age=0");
        Bench.same("it goes", b.cookiesOf(top), "a=4; c=3");
        b.cookie(top, "b=6; path=/");
        Bench.same("and comes anew", b.cookiesOf(top), "a=4; c=3; b=6");
        b.cookie(top, "A=7; path=/");
        b.cookie(top, "a=8; path=/; domain=a.com");
        Bench.same("another name, another domain", b.cookiesOf(top), "a=4; c=3; b=6; A=7; a=8");
        b.cookie(top, "a=9; path=/p");
        Bench.same("another path", b.cookiesOf(top), "a=9; a=4; c=3; b=6; A=7; a=8");
        b.cookie(top, "a=1; path=/; domain=x.a.com");
        Bench.same("whether for the host alone does not matter", b.cookiesOf(top), "a=9; a=1; c=3; b=6; A=7; a=8");
        b.go(top, "http://y.x.a.com/");
        Bench.same("it is not, any more", b.cookiesOf(top), "a=1; a=8");
        Bench over = new Bench();
        int f = over.committed("http://a.com/");
        over.cookie(f, "a=1; max-age=2");
        over.cookie(f, "b=2");
        over.pass(2);
        over.cookie(f, "a=3");
        Bench.same("those that are over go first", over.cookiesOf(f), "b=2; a=3");
    }

    private static void lengths() {
        Bench b = new Bench();
        int top = b.committed("http://a.com/" + "p".repeat(29) + "/q");
        b.cookie(top, "a=1");
        Bench.same("path of 30", b.about(0, 8), 1);
        b.go(top, "/" + "p".repeat(30) + "/q");
        b.cookie(top, "b=1");
        Bench.same("path of 31", b.about(0, 8), 1);
        b.cookie(top, "c=1; path=/" + "x".repeat(29));
        Bench.same("path of 30", b.about(0, 8), 2);
        b.cookie(top, "d=1; path=/" + "x".repeat(30));
        Bench.same("path of 31", b.about(0, 8), 2);
        String forty = "abcdefghijkl.abcdefghijkl.abcdefghijkl.a";
        b.go(top, "http://" + forty);
        b.cookie(top, "e=1");
        Bench.same("domain of 40", b.about(0, 8), 3);
        b.go(top, "http://" + forty + "b");
        b.cookie(top, "f=1");
        b.cookie(top, "g=1; domain=" + forty + "b");
        Bench.same("domain of 41", b.about(0, 8), 3);
        b.cookie(top, "g=1; domain=abcdefghijkl.ab");
        Bench.same("a part of it", b.about(0, 8), 4);
    }

    private static void order() {
        Bench b = new Bench();
        int top = b.committed("http://a.com/x/y/z");
        b.cookie(top, "a=1; path=/");
        b.cookie(top, "b=2; path=/x/y");
        b.cookie(top, "c=3; path=/x");
        b.cookie(top, "d=4; path=/x/y");
        b.cookie(top, "e=5; path=/x/");
        b.cookie(top, "f=6; path=/");
        Bench.same("longer paths first, then by numbers", b.cookiesOf(top), "b=2; d=4; e=5; c=3; a=1; f=6");
        b.messages();
        b.fetch(top, 0, true, "");
        Bench.same("so in message 1", b.messages(), "1 0 0 http://a.com/x/y/z b=2; d=4; e=5; c=3; a=1; f=6");
        b.open("http://b.com");
        Bench.same("not committed", b.cookiesOf(1), "none");
        Bench.same("what was shown stays", b.shown(), "b=2; d=4; e=5; c=3; a=1; f=6");
        Bench.same("sets none either", b.cookie(1, "a=1"), false);
        Bench.same("none", b.about(0, 8), 6);
    }

    private static void quotas() {
        Bench b = new Bench(3);
        int top = b.committed("http://a.com");
        b.cookie(top, "a=1");
        b.cookie(top, "b=2");
        b.cookie(top, "c=3");
        b.cookie(top, "a=4");
        b.cookie(top, "d=5");
        Bench.same("the one that came first goes", b.cookiesOf(top), "b=2; c=3; d=5");
        b.go(top, "http://x.a.com");
        b.cookie(top, "e=6");
        b.cookie(top, "f=7; domain=a.com");
        Bench.same("one site", b.cookiesOf(top), "e=6; f=7");
        b.go(top, "http://b.com");
        b.cookie(top, "g=8");
        Bench.same("another site", b.about(0, 8), 4);
        b.go(top, "http://a.com");
        Bench.same("all there", b.cookiesOf(top), "d=5; f=7");
        b.cookie(top, "i=9; max-age=1");
        Bench.same("e is there no more than d", b.cookiesOf(top), "f=7; i=9");
        b.pass(1);
        b.cookie(top, "j=10");
        Bench.same("those that are over go first", b.cookiesOf(top), "f=7; j=10");
        b.cookie(top, "k=11; max-age=0");
        Bench.same("one that is over does not come", b.about(0, 8), 4);
    }

    /** Whether cookies of two hosts share a quota of one. */
    private static boolean oneSite(String suffixes, String one, String two) {
        Bench b = new Bench(1);
        for (String suffix : suffixes.split(" ")) {
            b.suffix(suffix);
        }
        int top = b.committed("http://" + one);
        b.cookie(top, "a=1");
        b.go(top, "http://" + two);
        b.cookie(top, "b=2");
        Bench.same("the latter stays", b.cookiesOf(top), "b=2");
        return b.about(0, 8) == 1;
    }

    private static void sites() {
        Bench.same("last label and one more", oneSite("", "a.b.com", "c.b.com"), true);
        Bench.same("last label and one more", oneSite("", "b.com", "x.c.b.com"), true);
        Bench.same("another", oneSite("", "b.com", "c.com"), false);
        Bench.same("another", oneSite("", "b.com", "b.org"), false);
        Bench.same("one label", oneSite("", "com", "b.com"), false);
        Bench.same("not a suffix", oneSite("", "a.co.uk", "b.co.uk"), true);
        Bench.same("a suffix", oneSite("co.uk", "a.co.uk", "b.co.uk"), false);
        Bench.same("below it", oneSite("co.uk", "x.a.co.uk", "y.a.co.uk"), true);
        Bench.same("it is one", oneSite("co.uk", "co.uk", "a.co.uk"), false);
        Bench.same("behind a dot", oneSite("co.uk", "a.xco.uk", "b.xco.uk"), true);
        Bench.same("the longest", oneSite("uk co.uk x.co.uk", "a.x.co.uk", "b.x.co.uk"), false);
        Bench.same("the longest, told first", oneSite("x.co.uk co.uk uk", "a.x.co.uk", "b.x.co.uk"), false);
        Bench.same("the longest, below it", oneSite("x.co.uk co.uk", "c.a.x.co.uk", "a.x.co.uk"), true);
        Bench.same("beside the longest", oneSite("x.co.uk co.uk", "c.y.co.uk", "y.co.uk"), true);
        Bench.same("one label", oneSite("uk", "a.co.uk", "b.co.uk"), true);
        Bench.same("the first letters are the same", oneSite("", "b.com", "b.co"), false);
        Bench.same("the first letters are the same", oneSite("", "b.co", "b.com"), false);
        Bench.same("one label, same letters", oneSite("", "acom", "bcom"), false);
        Bench.same("suffixes, same letters", oneSite("a.com b.com", "a.com", "b.com"), false);
        Bench.same("same letters", oneSite("", "ab.com", "b.com"), false);
    }

    private static void fortyInAll() {
        Bench b = new Bench(30);
        int top = b.committed("http://a.com");
        for (int i = 0; i < 20; i++) {
            b.cookie(top, "a" + i + "=");
        }
        b.go(top, "http://b.com");
        for (int i = 0; i < 20; i++) {
            b.cookie(top, "b" + i + "=");
        }
        Bench.same("40", b.about(0, 8), 40);
        b.cookie(top, "b0=new");
        Bench.same("40 with one anew", b.about(0, 8), 40);
        b.cookie(top, "b20=");
        Bench.same("not 41", b.about(0, 8), 40);
        b.go(top, "http://a.com");
        Bench.same("the one that came first is gone", b.cookiesOf(top).substring(0, 9), "a1=; a2=;");
        b.go(top, "http://b.com");
        Bench.same("the newest is there", b.cookiesOf(top).endsWith("; b19=; b20="), true);
        Bench.same("in its place", b.cookiesOf(top).startsWith("b0=new; b1="), true);
    }

    private static void commits() {
        Bench b = new Bench();
        int top = b.committed("http://a.com/x/y");
        int r = b.navigate(top, top, "http://b.com/z/");
        b.set(r, "n=1");
        Bench.same("of the request's address, at once", b.about(0, 8), 1);
        Bench.same("not of the frame's", b.cookiesOf(top), "");
        b.answer(r, "");
        Bench.same("there", b.cookiesOf(top), "n=1");
        int inner = b.committedChild(top, "http://a.com/x/");
        b.cookie(inner, "m=2");
        Bench.same("a child's own", b.cookiesOf(inner), "m=2");
        Bench.same("the parent's", b.cookiesOf(top), "n=1");
    }
}
