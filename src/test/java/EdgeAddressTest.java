/** The edges of an ADDRESS, of DOTS, of a REFERENCE and of an ORIGIN, sentence by sentence. */
public final class EdgeAddressTest {
    private static final String LABEL = "abcdefghijkl";

    public static void main(String[] args) {
        schemes();
        labels();
        numbersOfLabels();
        ports();
        usualPorts();
        withoutPath();
        emptyQueries();
        restIsLeftAway();
        sixtyCharacters();
        whatDoesNotCount();
        sixtyEverywhere();
        dotsWithNothingBefore();
        dotsAtTheEnd();
        noDots();
        addressAlone();
        kindsOfReference();
        colons();
        emptyReference();
        behindTheBase();
        sixtyByReference();
        origins();
        Bench.end();
    }

    /** An ADDRESS, as open() and enter() take it; want is its TEXT. */
    private static void is(String address, String want) {
        Bench b = new Bench();
        Bench.same("open " + address, b.open(address), 0);
        Bench.same("open " + address, b.messages(), "1 0 0 " + want);
        Bench.same("enter " + address, b.enter(address), 0);
        Bench.same("enter " + address, b.messages(), "1 0 0 " + want);
        b.answer(0);
        Bench.same("bar " + address, b.barText(), want);
    }

    private static void isNone(String text) {
        new Bench().refuses("open " + text, -1, "", c -> c.open(text));
        Bench b = new Bench();
        b.committed("http://b/");
        b.refuses("open another " + text, -1, "", c -> c.open(text));
        b.refuses("enter " + text, -1, "", c -> c.enter(text));
    }

    /** "SCHEME: http or https", "Great letters of SCHEME and HOST are as small ones." */
    private static void schemes() {
        is("http://a/", "http://a/");
        is("https://a/", "https://a/");
        is("HTTP://A/", "http://a/");
        is("hTTpS://aZ.Za/AzQ?Az", "https://az.za/AzQ?Az");
        for (String none : new String[] {"", "htt://a/", "httpss://a/", "ttp://a/", "https//a/", "http:a/", "http:/a/", "://a/",
            "//a/", "a/", "ftp://a/", " http://a/", "http ://a/", "h", "http", "https:", "http:/", "http://", "https://", "http:///"}) {
            isNone(none);
        }
    }

    /** "labels of a .. z, 0 .. 9, - , 1 to 12 each" */
    private static void labels() {
        String[][] tails = {{"", "/"}, {"/", "/"}, {"/p", "/p"}, {":81", ":81/"}, {":81/p", ":81/p"}, {"?q", "/?q"}, {"#r", "/"}};
        for (String[] row : tails) {
            String tail = row[0];
            String shown = row[1];
            is("http://a" + tail, "http://a" + shown);
            is("http://" + LABEL + tail, "http://" + LABEL + shown);
            is("http://x." + LABEL + tail, "http://x." + LABEL + shown);
            isNone("http://" + LABEL + "m" + tail);
            isNone("http://x." + LABEL + "m" + tail);
            isNone("http://" + tail);
            isNone("http://a." + tail);
            isNone("http://.a" + tail);
            isNone("http://." + tail);
        }
        is("http://" + LABEL + ".b", "http://" + LABEL + ".b/");
        is("http://a." + LABEL + ".b", "http://a." + LABEL + ".b/");
        isNone("http://" + LABEL + "m.b");
        isNone("http://a." + LABEL + "m.b");
        isNone("http://a..b");
        is("http://-", "http://-/");
        is("http://0.9", "http://0.9/");
    }

    /** "1 to 6 of them, with . between" */
    private static void numbersOfLabels() {
        is("http://a.b.c.d.e", "http://a.b.c.d.e/");
        is("http://a.b.c.d.e.f", "http://a.b.c.d.e.f/");
        is("http://a.b.c.d.e.f:81/", "http://a.b.c.d.e.f:81/");
        isNone("http://a.b.c.d.e.f.g");
        isNone("http://a.b.c.d.e.f.g:81/");
        isNone("http://a.b.c.d.e.f./");
        isNone("http://.a.b.c.d.e.f/");
    }

    /** ":PORT: nothing, or : and 1 .. 5 digits, 1 .. 65535" */
    private static void ports() {
        for (String port : new String[] {"1", "9", "10", "99", "999", "9999", "10000", "65529", "65530", "65534", "65535"}) {
            is("http://a:" + port + "/", "http://a:" + port + "/");
            is("https://a:" + port, "https://a:" + port + "/");
        }
        for (String none : new String[] {"", "0", "00", "00000", "65536", "65540", "66000", "70000", "99999", "100000", "000001",
            "000080", "655350", "65616", "131072", "4294967297", "4294967376", "-1", "+1", "1x", "x", " 1", "1 ", "1.", "1:2", ":1"}) {
            for (String tail : new String[] {"", "/", "?q", "#r"}) {
                isNone("http://a:" + none + tail);
            }
        }
    }

    /** ":PORT but if it is 80 (http), 443 (https)" */
    private static void usualPorts() {
        is("http://a:80/", "http://a/");
        is("http://a:79/", "http://a:79/");
        is("http://a:81/", "http://a:81/");
        is("http://a:443/", "http://a:443/");
        is("https://a:443/", "https://a/");
        is("https://a:442/", "https://a:442/");
        is("https://a:444/", "https://a:444/");
        is("https://a:80/", "https://a:80/");
        is("http://a:80", "http://a/");
        is("https://a:443?", "https://a/?");
    }

    /** "PATH (/ if there is none)" */
    private static void withoutPath() {
        is("http://a", "http://a/");
        is("http://a/", "http://a/");
        is("http://a//", "http://a//");
        is("http://a?q", "http://a/?q");
        is("http://a#r", "http://a/");
        is("http://a:81", "http://a:81/");
    }

    /** "?QUERY if there is one, also an empty one" */
    private static void emptyQueries() {
        is("http://a/p", "http://a/p");
        is("http://a/p?", "http://a/p?");
        is("http://a/p?#", "http://a/p?");
        is("http://a/p?#r", "http://a/p?");
        is("http://a?", "http://a/?");
        is("http://a/p?q", "http://a/p?q");
        isNone("http://a/p??");
        isNone("http://a/p?q?");
    }

    /** "#REST: nothing, or # and such (it is left away)" */
    private static void restIsLeftAway() {
        is("http://a/p#", "http://a/p");
        is("http://a/p#r", "http://a/p");
        is("http://a/p?q#azAZ09-._~/=&", "http://a/p?q");
        isNone("http://a/p##");
        isNone("http://a/p#r r");
        isNone("http://a/p#:");
    }

    private static String long60(String ahead) {
        return ahead + "p".repeat(60 - ahead.length());
    }

    /** "It has at most 60 characters as TEXT." */
    private static void sixtyCharacters() {
        for (String ahead : new String[] {"http://a/", "https://a/", "http://a:1/", "https://a:65535/", "http://a/?", "http://a/p?",
            "http://" + LABEL + "." + LABEL + "." + LABEL + "/"}) {
            String sixty = long60(ahead);
            is(sixty.substring(0, 59), sixty.substring(0, 59));
            is(sixty, sixty);
            isNone(sixty + "p");
            isNone(sixty + "pp");
            isNone(sixty + "p".repeat(100));
        }
        String host = LABEL + "." + LABEL + "." + LABEL + ".abcdefghijk.a";
        is("http://" + host, "http://" + host + "/");
        is("http://" + host + "/", "http://" + host + "/");
        isNone("https://" + host);
        isNone("http://" + host + "b");
        isNone("http://" + host + "//");
        isNone("http://" + host + "?");
        isNone("http://" + host + ":1");
    }

    /** As TEXT there is no usual port and no REST. */
    private static void whatDoesNotCount() {
        String http = long60("http://a/");
        String https = long60("https://a/");
        is(http.replace("//a", "//a:80"), http);
        is(https.replace("//a", "//a:443"), https);
        isNone(http.replace("//a", "//a:443"));
        isNone(https.replace("//a", "//a:80"));
        is(http + "#", http);
        is(http + "#" + "r".repeat(99), http);
        isNone(http + "?");
        isNone(http + "?#r");
        is("http://a?" + "q".repeat(50), "http://a/?" + "q".repeat(50));
        isNone("http://a?" + "q".repeat(51));
    }

    /** The same limit in each call that reads an address, and what each one does beyond it. */
    private static void sixtyEverywhere() {
        String sixty = long60("http://a.com/");
        String more = sixty + "p";
        Bench b = new Bench();
        b.committed("http://a.com/");
        b.open("http://a.com/");
        b.fetch(0, 1, false, "http://b.com");
        b.clear();
        b.refuses("child", -1, "6 0 1 ", c -> c.child(0, more));
        b.refuses("navigate", -1, "6 0 1 ", c -> c.navigate(0, 0, more));
        for (int mode = 0; mode < 3; mode++) {
            int any = mode;
            b.refuses("fetch", -1, "6 0 1 ", c -> c.fetch(0, any, true, more));
        }
        b.refuses("post", false, "", c -> c.post(0, 0, 1, more));
        Bench.same("child", b.copy().child(0, sixty), 2);
        Bench.same("navigate", b.copy().navigate(0, 0, sixty), 2);
        Bench.same("fetch", b.copy().fetch(0, 0, true, sixty), 2);
        Bench.same("post", b.copy().post(0, 0, 1, sixty), true);
        Bench.same("lead a navigation", led(b, 0, sixty), "true 1 0 1 " + sixty);
        Bench.same("lead a navigation", led(b, 0, more), "false 6 1 1 ");
        Bench.same("lead a fetch", led(b, 1, sixty), "true 1 1 0 " + sixty);
        Bench.same("lead a fetch", led(b, 1, more), "false 4 0 1 ");
        Bench.same("leave", left(b, sixty), "3 0 1 t");
        Bench.same("leave", left(b, more), "4 0 1 ");
    }

    private static String led(Bench from, int r, String text) {
        Bench b = from.copy();
        return b.lead(r, text) + " " + b.messages();
    }

    private static String left(Bench from, String text) {
        Bench b = from.copy();
        b.leave(1, false, text);
        b.answer(1, "t");
        return b.messages();
    }

    private static void dotted(String path, String want) {
        is("http://h" + path, "http://h" + want);
        is("http://h" + path + "?../.", "http://h" + want + "?../.");
        is("http://h" + path + "#../.", "http://h" + want);
        refers("http://x/y/z?q", "https://h" + path, "https://h" + want);
        refers("http://x/y/z?q", "//h" + path, "http://h" + want);
        if (!path.startsWith("//")) {
            refers("http://h/y/z?q", path, "http://h" + want);
            refers("http://h?q", path.substring(1).isEmpty() ? "./" : path.substring(1), "http://h" + want);
        }
    }

    /** ".. with the part before, if there is one" */
    private static void dotsWithNothingBefore() {
        dotted("/../a", "/a");
        dotted("/../../../a", "/a");
        dotted("/a/../../b", "/b");
        dotted("/a/../b", "/b");
        dotted("/a/b/../../c", "/c");
        dotted("/a/b/../../../c", "/c");
        dotted("/./../a", "/a");
        dotted("/a/./../b", "/b");
        dotted("/a/./b/../c", "/a/c");
        dotted("/a//../b", "/a/b");
        dotted("/a//../../b", "/b");
        dotted("//../a", "/a");
    }

    /** "where the last part is one of these, a / stays at the end" */
    private static void dotsAtTheEnd() {
        dotted("/.", "/");
        dotted("/..", "/");
        dotted("/./", "/");
        dotted("/../", "/");
        dotted("/a/.", "/a/");
        dotted("/a/..", "/");
        dotted("/a/../..", "/");
        dotted("/a/b/..", "/a/");
        dotted("/a/b/../", "/a/");
        dotted("/a/b/.", "/a/b/");
        dotted("/a/b/./.", "/a/b/");
        dotted("/a/b/./..", "/a/");
        dotted("/a/b/../.", "/a/");
        dotted("/a//..", "/a/");
        dotted("//..", "/");
        dotted("//.", "//");
    }

    private static void noDots() {
        for (String path : new String[] {"/", "/a", "/a/", "/...", "/.../", "/.a", "/a.", "/..a", "/a..", "/.-", "/a/.../b", "/a//b",
            "/a//", "/-./.-", "/~../..~", "/a.b/c..d"}) {
            dotted(path, path);
        }
        is("http://h?/../a", "http://h/?/../a");
    }

    private static void refers(String base, String reference, String want) {
        Bench b = new Bench();
        b.committed(base);
        b.clear();
        Bench.same(reference + " at " + base, b.child(0, reference), 1);
        Bench.same(reference + " at " + base, b.messages(), "1 0 1 " + want);
        Bench.same(reference + " navigated", b.navigate(0, 0, reference), 1);
        Bench.same(reference + " navigated", b.messages(), "1 1 0 " + want);
        Bench.same(reference + " fetched", b.fetch(0, 1, false, reference), 2);
        Bench.same(reference + " fetched", b.messages(), "1 2 0 " + want);
        int r = b.fetch(0, 2, false, "");
        b.clear();
        Bench.same(reference + " led to", b.lead(r, reference), true);
        Bench.same(reference + " led to", b.messages(), "1 3 0 " + want);
    }

    private static void refersNowhere(String base, String text) {
        Bench b = new Bench();
        b.committed(base);
        b.clear();
        b.refuses("child " + text, -1, "6 0 1 ", c -> c.child(0, text));
        b.refuses("navigate " + text, -1, "6 0 1 ", c -> c.navigate(0, 0, text));
        b.refuses("fetch " + text, -1, "6 0 1 ", c -> c.fetch(0, 1, true, text));
        b.fetch(0, 1, false, "");
        b.enter(base);
        b.clear();
        Bench.same("lead a fetch " + text, led(b, 0, text), "false 4 0 0 ");
        Bench.same("lead a navigation " + text, led(b, 1, text), "false 6 0 1 ");
    }

    /** "(Without a base an ADDRESS alone.)" */
    private static void addressAlone() {
        Bench b = new Bench();
        b.committed("http://a.com/p");
        b.fetch(0, 1, false, "http://b.com");
        for (String text : new String[] {"", "//a.com", "//a.com/p", "/p", "p", "?q", "#r", ".", "..", "a.com"}) {
            isNone(text);
            b.refuses("post to " + text, false, "", c -> c.post(0, 0, 1, text));
            Bench told = b.copy();
            told.leave(0, true, text);
            told.clear();
            told.answer(0, "t");
            Bench.same("leave for " + text, told.messages(), "4 0 0 ");
        }
    }

    private static void kindsOfReference() {
        String base = "https://h:81/a/b?q";
        refers(base, "http://x", "http://x/");
        refers(base, "http://x/./y/..", "http://x/");
        refers(base, "//x", "https://x/");
        refers(base, "//x:81?r", "https://x:81/?r");
        refers(base, "//x:443", "https://x/");
        refers(base, "/", "https://h:81/");
        refers(base, "/c", "https://h:81/c");
        refers(base, "/c?r", "https://h:81/c?r");
        refers(base, "?r", "https://h:81/a/b?r");
        refers(base, "?", "https://h:81/a/b?");
        refers(base, "?#r", "https://h:81/a/b?");
        refers(base, "c", "https://h:81/a/c");
        refers(base, "c?", "https://h:81/a/c?");
        refers(base, "c#r", "https://h:81/a/c");
        for (String none : new String[] {"http://", "https:///", "//", "///", "///c", "//?", "//#", "//.", "//x.", "//x:", "//x:0",
            "//x:65536", "//" + LABEL + "m", "//a.b.c.d.e.f.g", "//x_", " ", "a b", "/ ", "? ", "# ", "=", "&", "/=", "a=b", "?a?", "##"}) {
            refersNowhere(base, none);
        }
    }

    /** "no colon in the part before any / ? #" — and none is a character of what follows. */
    private static void colons() {
        for (String none : new String[] {":", "a:", ":a", "a:b", "a:80", "http:", "https:a", "a:b/c", "a:b?c", "a:b#c", "a/b:c",
            "a?b:c", "a#b:c", "/:", "?:", "#:", "./a:b"}) {
            refersNowhere("http://h/x", none);
        }
        refers("http://h/x", "http", "http://h/http");
        refers("http://h/x", "https//a", "http://h/https//a");
    }

    /** "\"\" or #REST: the base." */
    private static void emptyReference() {
        for (String base : new String[] {"http://h/", "https://h:81/a/b", "http://h/?", "http://h/a?q=1", "http://h/a/?../."}) {
            refers(base, "", base);
            refers(base, "#", base);
            refers(base, "#r", base);
            refers(base, "#" + "r".repeat(159), base);
        }
    }

    /** "put behind the base's PATH up to its last /" */
    private static void behindTheBase() {
        refers("http://h", "c", "http://h/c");
        refers("http://h/a", "c", "http://h/c");
        refers("http://h/a/", "c", "http://h/a/c");
        refers("http://h/a/b", "c", "http://h/a/c");
        refers("http://h//", "c", "http://h//c");
        refers("http://h/?x/y", "c", "http://h/c");
        refers("http://h/a/b", "./", "http://h/a/");
        refers("http://h/a/b", "..", "http://h/");
        refers("http://h/a/b", "../..", "http://h/");
        refers("http://h/a/b", "../../../c", "http://h/c");
        refers("http://h/a/b", "c/", "http://h/a/c/");
        refers("http://h/a/b", "c//d", "http://h/a/c//d");
        refers("http://h/a/b", "...", "http://h/a/...");
    }

    private static void sixtyByReference() {
        String base = "http://h/a/b?q";
        String[][] ways = {{"", "http://h/a/"}, {"/", "http://h/"}, {"?", "http://h/a/b?"}, {"//x/", "http://x/"},
            {"//x:81/", "http://x:81/"}, {"../", "http://h/"}, {"c?", "http://h/a/c?"}, {"https://x/", "https://x/"}};
        for (String[] way : ways) {
            String more = "p".repeat(60 - way[1].length());
            refers(base, way[0] + more, way[1] + more);
            refers(base, way[0] + more + "#r", way[1] + more);
            refersNowhere(base, way[0] + more + "p");
        }
        String full = long60("http://h/");
        refers(full, "", full);
        refers(full, "#r", full);
        refersNowhere(full, "?");
        refersNowhere(full, "//h2/" + "p".repeat(51));
    }

    /** "ORIGIN: SCHEME, HOST and PORT (80 or 443 without)." */
    private static void origins() {
        Bench b = new Bench();
        b.committed("http://a.com/x?y");
        b.committed("https://a.com/");
        for (String own : new String[] {"http://a.com", "HTTP://A.COM", "http://a.com:80", "http://a.com/z", "http://a.com?q#r"}) {
            Bench.same(own, b.post(1, 0, 1, own), true);
            Bench.same(own, b.post(0, 1, 1, own), false);
        }
        for (String own : new String[] {"https://a.com", "https://a.com:443/z"}) {
            Bench.same(own, b.post(0, 1, 1, own), true);
            Bench.same(own, b.post(1, 0, 1, own), false);
        }
        for (String other : new String[] {"http://a.com:443", "https://a.com:80", "http://a.com:81", "http://a.com:8", "http://a.com:8080",
            "https://a.com:44", "http://a.co", "http://a.comm", "http://aa.com", "http://b.a.com", "http://com", "http://a.com.a"}) {
            Bench.same(other, b.post(1, 0, 1, other), false);
            Bench.same(other, b.post(0, 1, 1, other), false);
        }
    }
}
