/** Addresses, their TEXT, DOTS and REFERENCES: the terms behind promises 5, 8, 9, 10, 11 and 15. */
public final class AddressTest {
    private static final String LABEL = "abcdefghijkl";

    public static void main(String[] args) {
        addresses();
        noAddresses();
        lengths();
        dots();
        references();
        noReferences();
        referenceLengths();
        Bench.end();
    }

    private static String text(String address) {
        Bench b = new Bench();
        int tab = b.open(address);
        Bench.same("message 1 and a tab, or neither: " + address, b.about(0, 9), tab == 0 ? 1 : 0);
        return tab == 0 ? b.messageText(0) : "none";
    }

    private static void is(String address, String want) {
        Bench.same(address, text(address), want);
    }

    private static void addresses() {
        is("http://a", "http://a/");
        is("https://a", "https://a/");
        is("HtTpS://A.Bc-9/Xy", "https://a.bc-9/Xy");
        is("HTTP://AZ/", "http://az/");
        is("http://a:80/", "http://a/");
        is("https://a:443/", "https://a/");
        is("http://a:443/", "http://a:443/");
        is("https://a:80", "https://a:80/");
        is("http://a:1", "http://a:1/");
        is("http://a:65535", "http://a:65535/");
        is("http://a:00080", "http://a/");
        is("http://a?", "http://a/?");
        is("http://a?q=1&r", "http://a/?q=1&r");
        is("http://a:81?q", "http://a:81/?q");
        is("http://a#x", "http://a/");
        is("http://a:81#", "http://a:81/");
        is("http://a/p#", "http://a/p");
        is("http://a/p?#", "http://a/p?");
        is("http://a/p?q#r/=&", "http://a/p?q");
        is("http://a/azAZ09-._~/", "http://a/azAZ09-._~/");
        is("http://a?azAZ09-._~/=&", "http://a/?azAZ09-._~/=&");
        is("http://a/p?../.", "http://a/p?../.");
        is("http://a//b", "http://a//b");
        is("http://a.b.c.d.e.f", "http://a.b.c.d.e.f/");
        is("http://" + LABEL, "http://" + LABEL + "/");
        is("http://-.0", "http://-.0/");
    }

    private static void noAddresses() {
        for (String none : new String[] {"", "a", "/", "//a", "http", "http:", "http:/", "http://", "http:///", "http:/a",
            "http//a", "ftp://a", "httpss://a", "ttp://a", " http://a", "http://a ", "http://a /", "http://.a", "http://a.",
            "http://a..b", "http://a_b", "http://a~", "http://" + LABEL + "m", "http://a.b.c.d.e.f.g", "http://a:",
            "http://a:/", "http://a:0", "http://a:00000", "http://a:65536", "http://a:99999", "http://a:000080",
            "http://a:-1", "http://a:8o", "http://a:80:80", "http://a/=", "http://a/&", "http://a/b:c", "http://a/ b",
            "http://a/%20", "http://a/?a?b", "http://a/?a b", "http://a/?a:b", "http://a/#a b", "http://a/#a#b",
            "http://a/#%", "http://u@a", "?q", "#r", "https:a", "*", "http://a!"}) {
            is(none, "none");
        }
        for (char c = 32; c <= 126; c++) {
            boolean ofHost = Character.isLetterOrDigit(c) || c == '-';
            boolean ofPath = ofHost || "._~/".indexOf(c) >= 0;
            boolean ofQuery = ofPath || c == '=' || c == '&';
            is("http://a" + c + "b", ofHost || c == '.' ? "http://a" + Character.toLowerCase(c) + "b/" : behindHost(c));
            is("http://a/" + c + "b", ofPath ? "http://a/" + c + "b" : behindPath(c));
            is("http://a/?" + c + "b", ofQuery ? "http://a/?" + c + "b" : c == '#' ? "http://a/?" : "none");
            is("http://a/#" + c + "b", ofQuery ? "http://a/" : "none");
        }
    }

    private static String behindHost(char c) {
        return c == '/' ? "http://a/b" : behindPath(c);
    }

    private static String behindPath(char c) {
        return c == '?' ? "http://a/?b" : c == '#' ? "http://a/" : "none";
    }

    private static void lengths() {
        String sixty = "http://a/" + "p".repeat(51);
        is(sixty, sixty);
        is(sixty + "p", "none");
        is("http://a:80/" + "p".repeat(51) + "#" + "r".repeat(90), sixty);
        is("http://a?" + "q".repeat(50), "http://a/?" + "q".repeat(50));
        is("http://a?" + "q".repeat(51), "none");
        is("https://a:8443/" + "p".repeat(45), "https://a:8443/" + "p".repeat(45));
        is("https://a:8443/" + "p".repeat(46), "none");
    }

    private static void dots() {
        dotted("/a/./b/../c", "/a/c");
        dotted("/a/..", "/");
        dotted("/a/../", "/");
        dotted("/.", "/");
        dotted("/..", "/");
        dotted("/../../a", "/a");
        dotted("/a/b/..", "/a/");
        dotted("/a/b/.", "/a/b/");
        dotted("/a/b/./", "/a/b/");
        dotted("/a/b/../..", "/");
        dotted("/a/b/../../../c/d", "/c/d");
        dotted("/a/.b/..c/d./e../...", "/a/.b/..c/d./e../...");
        dotted("/a//../b", "/a/b");
        dotted("/a//./b", "/a//b");
        dotted("//..", "/");
        dotted("/a/b/../c/..", "/a/");
    }

    private static void dotted(String path, String want) {
        is("http://h" + path, "http://h" + want);
        is("http://h" + path + "?q", "http://h" + want + "?q");
        resolved("http://x/y", "https://h" + path, "https://h" + want);
        resolved("http://x/y", "//h" + path, "http://h" + want);
        if (path.charAt(1) != '/') {
            resolved("http://h/y/z?q", path, "http://h" + want);
            resolved("http://h/y?q", path.substring(1), "http://h" + want);
        }
    }

    private static String meant(String base, String reference) {
        Bench b = new Bench();
        int top = b.committed(base);
        b.clear();
        int inner = b.child(top, reference);
        return inner == TabKernel.NONE ? b.messages() : b.messageText(0);
    }

    private static void resolved(String base, String reference, String want) {
        Bench.same(reference + " at " + base, meant(base, reference), want);
    }

    private static void references() {
        String base = "https://h.com:81/a/b?q";
        resolved(base, "http://x.Y:443/P", "http://x.y:443/P");
        resolved(base, "HTTPS://x", "https://x/");
        resolved(base, "//X/p?r#s", "https://x/p?r");
        resolved(base, "//x:443", "https://x/");
        resolved(base, "//x:80", "https://x:80/");
        resolved("http://h", "//x:80", "http://x/");
        resolved(base, "/", "https://h.com:81/");
        resolved(base, "/c", "https://h.com:81/c");
        resolved(base, "/c//d?r", "https://h.com:81/c//d?r");
        resolved(base, "/c#r", "https://h.com:81/c");
        resolved(base, "?", "https://h.com:81/a/b?");
        resolved(base, "?r=1#s", "https://h.com:81/a/b?r=1");
        resolved(base, "", base);
        resolved(base, "#", base);
        resolved(base, "#r=&/.-_~9", base);
        resolved(base, "c", "https://h.com:81/a/c");
        resolved(base, "c/d/?", "https://h.com:81/a/c/d/?");
        resolved(base, "c#d", "https://h.com:81/a/c");
        resolved(base, ".", "https://h.com:81/a/");
        resolved(base, "..", "https://h.com:81/");
        resolved(base, "../../c?r", "https://h.com:81/c?r");
        resolved(base, "./c", "https://h.com:81/a/c");
        resolved(base, "http", "https://h.com:81/a/http");
        resolved(base, "~", "https://h.com:81/a/~");
        resolved("http://h/a/", "c", "http://h/a/c");
        resolved("http://h", "c", "http://h/c");
        resolved("http://h?a/b", "c", "http://h/c");
        resolved("http://h//", "c", "http://h//c");
        resolved("http://h/a?b", "", "http://h/a?b");
        otherBases();
    }

    /** Each frame has its own base, whatever was read last. */
    private static void otherBases() {
        Bench b = new Bench();
        b.committed("http://one:81/a/b?q");
        b.committed("https://two:82/c/d?r");
        b.messages();
        for (String reference : new String[] {"", "x", "/x", "?x", "//x", "a b"}) {
            b.child(0, reference);
            b.child(1, reference);
        }
        Bench.same("by turns", b.messages(), "1 0 2 http://one:81/a/b?q|1 1 3 https://two:82/c/d?r|1 2 4 http://one:81/a/x"
                + "|1 3 5 https://two:82/c/x|1 4 6 http://one:81/x|1 5 7 https://two:82/x|1 6 8 http://one:81/a/b?x"
                + "|1 7 9 https://two:82/c/d?x|1 8 10 http://x/|1 9 11 https://x/|6 0 1 |6 1 1 ");
    }

    private static void noReferences() {
        String base = "https://h.com/a/b?q";
        for (String none : new String[] {"http:", "http:c", "http://", "https:///c", "//", "///c", "//?q", "//x:0", "//a_b",
            "a:b", "a:80/b", "c/d:e", ":", ":80", " ", " c", "c ", "=", "&", "c=d", "?a?b", "?:", "#a#b", "#?", "# ",
            "/c d", "/c:d", "/=", "*", "mailto:x", "%", "//x/p q"}) {
            resolved(base, none, "6 0 1 ");
        }
    }

    private static void referenceLengths() {
        String base = "http://h/a/b";
        resolved(base, "p".repeat(49), "http://h/a/" + "p".repeat(49));
        resolved(base, "p".repeat(50), "6 0 1 ");
        resolved(base, "/" + "p".repeat(51), "http://h/" + "p".repeat(51));
        resolved(base, "/" + "p".repeat(52), "6 0 1 ");
        resolved(base, "?" + "q".repeat(47), base + "?" + "q".repeat(47));
        resolved(base, "?" + "q".repeat(48), "6 0 1 ");
        resolved(base, "#" + "q".repeat(150), base);
    }
}
