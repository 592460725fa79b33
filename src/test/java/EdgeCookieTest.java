/** The edges of SETTING and GOING WITH, and of promises 13 (set), 16 (cookies) and 17 (cookie), sentence by sentence. */
public final class EdgeCookieTest {
    /** As long as a DOMAIN may be. */
    private static final String FORTY = "abcdefghijkl.abcdefghijkl.abcdefghijkl.a";
    private static final String TWELVE = "abcdefghijkl";

    public static void main(String[] args) {
        pairWithoutSign();
        emptyNames();
        twelveCharacters();
        blanksAtTheEnds();
        theFirstSign();
        keysOfAttributes();
        othersArePassedOver();
        emptyDomains();
        lastDomainCounts();
        domainOfTheHost();
        domainIsASuffix();
        suffixesToldLater();
        pathsWithoutSlash();
        lastPathCounts();
        withoutPath();
        agesThatCount();
        agesPassedOver();
        lastAgeCounts();
        agesAtTheEndOfTime();
        secureByHttp();
        hiddenByAFrame();
        oneThereIsHidden();
        pathOfThirty();
        domainOfForty();
        sameNameDomainAndPath();
        comesIfNotOver();
        goingWithHosts();
        goingWithPaths();
        goingWithSchemes();
        goingByTheNetwork();
        goingUntilOver();
        goingInOrder();
        setByRequests();
        cookiesOfFrames();
        Bench.end();
    }

    /** Frame 0 committed there, request 0 a fetch of it with cookies; n and o are set, for the HOST ALONE and PATH /. */
    private static Bench at(String address) {
        Bench b = new Bench();
        b.committed(address);
        b.fetch(0, 1, true, "");
        b.cookie(0, "n=1; path=/");
        b.cookie(0, "o=2; path=/");
        b.clear();
        return b;
    }

    private static Bench plain() {
        return at("http://a.com/");
    }

    /** What goes with the frame's address then, whether a frame or the network sets it. */
    private static void comes(Bench b, String text, String want) {
        Bench one = b.copy();
        Bench.same("cookie " + text, one.cookie(0, text), true);
        Bench.same("cookie " + text, one.cookiesOf(0), want);
        Bench other = b.copy();
        other.set(0, text);
        Bench.same("set " + text, other.cookiesOf(0), want);
        Bench.same("no message of " + text, one.messageCount() + other.messageCount(), b.messageCount() * 2);
    }

    private static void nothingHappens(Bench b, String text) {
        b.refuses("cookie " + text, true, "", c -> c.cookie(0, text));
        b.refuses("set " + text, true, "", c -> {
            c.set(0, text);
            return true;
        });
    }

    /** "Up to the first ; is the PAIR: nothing happens without = in it" */
    private static void pairWithoutSign() {
        comes(plain(), "n=", "n=; o=2");
        comes(plain(), "n=;", "n=; o=2");
        comes(plain(), "m=;=", "n=1; o=2; m=");
        for (String text : new String[] {"", " ", "n", ";", ";;", "n;", "n;=", "n; =2", "; n=2", ";n=2;", "n; max-age=0", "n;max-age=0;o=3",
            "~".repeat(160)}) {
            nothingHappens(plain(), text);
        }
    }

    /** "nothing happens if NAME is empty" */
    private static void emptyNames() {
        comes(plain(), "m=", "n=1; o=2; m=");
        for (String text : new String[] {"=", "=2", " =2", "   =   ", "==", "=n=2", " = n=2", "=;", "=2; max-age=0"}) {
            nothingHappens(plain(), text);
        }
    }

    /** "or either has more than 12 characters" */
    private static void twelveCharacters() {
        comes(plain(), TWELVE + "=" + TWELVE, "n=1; o=2; " + TWELVE + "=" + TWELVE);
        comes(plain(), "n=" + TWELVE, "n=" + TWELVE + "; o=2");
        comes(plain(), "a b c d e fg=a b c d e fg", "n=1; o=2; a b c d e fg=a b c d e fg");
        nothingHappens(plain(), TWELVE + "m=1");
        nothingHappens(plain(), TWELVE + "m=");
        nothingHappens(plain(), "n=" + TWELVE + "m");
        nothingHappens(plain(), "a b c d e f g=1");
        nothingHappens(plain(), "n=a b c d e f g");
        nothingHappens(plain(), "n=" + TWELVE + "m; max-age=0");
        nothingHappens(plain(), "n=" + "x".repeat(158));
        nothingHappens(plain(), "x".repeat(158) + "=1");
    }

    /** "both without blanks at their ends" */
    private static void blanksAtTheEnds() {
        comes(plain(), " n =  3 ", "n=3; o=2");
        comes(plain(), "n=   ", "n=; o=2");
        comes(plain(), "   " + TWELVE + "   =   " + TWELVE + "   ;", "n=1; o=2; " + TWELVE + "=" + TWELVE);
        comes(plain(), " ".repeat(60) + "n" + " ".repeat(38) + "=" + " ".repeat(59) + "3", "n=3; o=2");
        nothingHappens(plain(), "  " + TWELVE + "m  =1");
        nothingHappens(plain(), "n=  " + TWELVE + "m  ");
    }

    /** "NAME is ahead of the first = , VALUE behind it" */
    private static void theFirstSign() {
        comes(plain(), "n==", "n==; o=2");
        comes(plain(), "n=a=b", "n=a=b; o=2");
        comes(plain(), "n=0=2=4=6=8=01", "n=0=2=4=6=8=01; o=2");
        nothingHappens(plain(), "n=0=2=4=6=8=01=");
    }

    /** "ahead of a first = (or all) the key, small or great letters alike, ... without blanks at their ends" */
    private static void keysOfAttributes() {
        for (String over : new String[] {"max-age=0", "MAX-AGE=0", "Max-agE=0", "  max-age  =  0  ", "max-age=0;", ";max-age=0", ";;;max-age=0;;"}) {
            comes(plain(), "n=3;" + over, "o=2");
        }
        for (String not : new String[] {"max-age", "max-age0", "max age=0", "max-age =", "x-max-age=0", "max-ages=0", "=max-age=0", "max-age;=0",
            "max-age==0", "max-age=0=", "maxage=0"}) {
            comes(plain(), "n=3;" + not, "n=3; o=2");
        }
        comes(plain(), "n=3; path=/=", "n=1; o=2");
    }

    /** "All others are passed over." */
    private static void othersArePassedOver() {
        for (String other : new String[] {"", " ", "=", "=x", "x", "x=y", "expires=0", "samesite=strict", "secured", "http-only", "httponl",
            "secur", "name=z", "value=z", "version=1", "n=4", "; ; ;", "domains=b.com", "paths=/x"}) {
            comes(plain(), "n=3; " + other, "n=3; o=2");
        }
    }

    /** Where the only cookie goes that x.a.com has set so: to itself, below it, beside it, to a.com. */
    private static String reach(String attributes) {
        Bench b = new Bench();
        b.committed("http://x.a.com/");
        b.cookie(0, "n=1; " + attributes);
        StringBuilder all = new StringBuilder();
        for (String host : new String[] {"x.a.com", "y.x.a.com", "z.a.com", "a.com"}) {
            b.go(0, "http://" + host + "/");
            all.append(b.cookiesOf(0).isEmpty() ? "-" : "+");
        }
        return all.toString();
    }

    /** "DOMAIN: without a . in front, great letters as small ones; passed over if it is empty then." */
    private static void emptyDomains() {
        for (String none : new String[] {"", "domain", "domain=", "domain=.", "domain= . ", "domain=  "}) {
            Bench.same("as without: " + none, reach(none), "+---");
        }
        for (String whole : new String[] {"domain=x.a.com", "domain=.x.a.com", "domain=X.A.Com", "DOMAIN= .X.a.com "}) {
            Bench.same("the host: " + whole, reach(whole), "++--");
        }
        for (String above : new String[] {"domain=a.com", "domain=.a.com", "Domain=.A.COM"}) {
            Bench.same("above: " + above, reach(above), "++++");
        }
    }

    /** "of several with one key the last one counts (one that is passed over does not)" */
    private static void lastDomainCounts() {
        Bench.same("last", reach("domain=b.com; domain=a.com"), "++++");
        Bench.same("last", reach("domain=a.com; domain=x.a.com"), "++--");
        Bench.same("last", reach("domain=a.com; domain=b.com"), "----");
        for (String passed : new String[] {"domain", "domain=", "domain=.", "domain= . "}) {
            Bench.same("passed over: " + passed, reach("domain=a.com; " + passed), "++++");
            Bench.same("passed over: " + passed, reach(passed + "; domain=a.com"), "++++");
            Bench.same("passed over: " + passed, reach("domain=b.com; " + passed), "----");
        }
    }

    /** "if the request's host is not that and does not end with . and it, nothing happens" */
    private static void domainOfTheHost() {
        Bench b = at("http://x.a.com/");
        for (String other : new String[] {"b.com", "y.a.com", "y.x.a.com", "xx.a.com", ".xx.a.com", "a.com.", "x.a.com.", "x.a.co", ".a.co",
            "x.a", "a.comm", "x.a.com.x", "-.a.com", "a.com/", "a.com:80", "http://a.com", "*.a.com", "x a.com"}) {
            nothingHappens(b, "n=3; domain=" + other);
            nothingHappens(b, "n=3; max-age=0; domain=" + other);
        }
        Bench near = at("http://xa.com/");
        nothingHappens(near, "n=3; domain=a.com");
        comes(near, "n=3; domain=xa.com", "n=3; o=2");
        comes(at("http://x.a.com/"), "n=3; domain=a.com", "n=1; o=2; n=3");
    }

    /** "if that IS A SUFFIX: as without DOMAIN, if the request's host is just that, else nothing happens" */
    private static void domainIsASuffix() {
        Bench b = new Bench();
        b.suffix("co.uk");
        b.suffix("a.b.c.d.e.f");
        b.committed("http://co.uk/");
        b.cookie(0, "n=1; domain=co.uk");
        Bench.same("just that", b.cookiesOf(0), "n=1");
        b.go(0, "http://a.co.uk/");
        Bench.same("for the HOST ALONE", b.cookiesOf(0), "");
        b.cookie(0, "n=2");
        b.fetch(0, 1, true, "");
        nothingHappens(b, "n=3; domain=co.uk");
        nothingHappens(b, "n=3; domain=.CO.UK");
        nothingHappens(b, "n=3; domain=uk");
        nothingHappens(b, "n=3; max-age=0; domain=co.uk");
        comes(b, "n=3; domain=a.co.uk", "n=3");
        Bench label = at("http://com/");
        comes(label, "n=3; domain=com", "n=3; o=2");
        label.cookie(0, "p=4; domain=com");
        label.go(0, "http://a.com/");
        Bench.same("one label, for the HOST ALONE", label.cookiesOf(0), "");
        Bench above = at("http://a.com/");
        nothingHappens(above, "n=3; domain=com");
        nothingHappens(above, "n=3; domain=.com");
        Bench long6 = b.copy();
        long6.go(0, "http://a.b.c.d.e.f/");
        long6.cookie(0, "m=3; domain=a.b.c.d.e.f");
        Bench.same("six labels", long6.cookiesOf(0), "m=3");
        long6.cookie(0, "l=3; domain=b.c.d.e.f");
        Bench.same("its end is none", long6.cookiesOf(0), "m=3; l=3");
    }

    /** What IS A SUFFIX when the cookie is set counts, not what became one later. */
    private static void suffixesToldLater() {
        Bench b = at("http://a.co.uk/");
        b.cookie(0, "m=3; domain=co.uk");
        Bench.same("not yet", b.cookiesOf(0), "n=1; o=2; m=3");
        b.suffix("co.uk");
        Bench.same("one that is there stays", b.cookiesOf(0), "n=1; o=2; m=3");
        nothingHappens(b, "m=4; domain=co.uk");
        nothingHappens(b, "m=4; max-age=0; domain=co.uk");
    }

    /** On which of these paths the only cookie goes that /d/e of a.com has set so. */
    private static String span(String attributes) {
        Bench b = new Bench();
        b.committed("http://a.com/d/e");
        b.cookie(0, "n=1; " + attributes);
        StringBuilder all = new StringBuilder();
        for (String path : new String[] {"/", "/d", "/d/", "/d/e", "/x", "/x/y"}) {
            b.go(0, path);
            all.append(b.cookiesOf(0).isEmpty() ? "-" : "+");
        }
        return all.toString();
    }

    /** "PATH: if the value does not begin with / , it is as if told without one" */
    private static void pathsWithoutSlash() {
        Bench.same("none", span(""), "-+++--");
        for (String none : new String[] {"path", "path=", "path= ", "path=x", "path=.", "path=x/", "path=d/e", "path=~/"}) {
            Bench.same("as without: " + none, span(none), "-+++--");
        }
        Bench.same("the shortest", span("path=/"), "++++++");
        Bench.same("blanks", span("PATH = /x "), "----++");
        Bench.same("/d", span("path=/d"), "-+++--");
        Bench.same("/d/", span("path=/d/"), "--++--");
    }

    /** "(the last one counts all the same)" */
    private static void lastPathCounts() {
        Bench.same("last", span("path=/x; path=/"), "++++++");
        Bench.same("last", span("path=/; path=/x"), "----++");
        for (String none : new String[] {"path", "path=", "path=y", "path=d/"}) {
            Bench.same("counts all the same: " + none, span("path=/x; " + none), "-+++--");
            Bench.same("is not the last: " + none, span(none + "; path=/x"), "----++");
        }
    }

    private static void byDefault(String setAt, String path) {
        Bench b = new Bench();
        b.committed("http://a.com" + setAt);
        b.cookie(0, "n=1");
        b.cookie(0, "n=2; path=" + path);
        Bench.same("the path at " + setAt + " is " + path, b.cookieCount(), 1);
    }

    /** "Without PATH: the request's PATH up to its last / (not included; / if that is empty)." */
    private static void withoutPath() {
        byDefault("", "/");
        byDefault("/", "/");
        byDefault("/x", "/");
        byDefault("/x?y/z", "/");
        byDefault("/x/", "/x");
        byDefault("/x/y", "/x");
        byDefault("/x/y/", "/x/y");
        byDefault("/x/y/../z", "/x");
        byDefault("//", "/");
        byDefault("//x", "/");
        byDefault("/x//", "/x/");
        byDefault("/x//y", "/x/");
    }

    /** When a cookie set at TIME 10 is over: so many later; 0 if it does not come, -1 if never. */
    private static int lasts(String attributes) {
        Bench b = at("http://a.com/");
        b.pass(10);
        b.cookie(0, "m=3;" + attributes);
        for (int n : new int[] {0, 1, 2, 3, 5, 99, 9_999_998, 9_999_999}) {
            Bench later = b.copy();
            later.pass(n);
            if (later.cookieCount() == 2) {
                Bench.same("nor does it go", later.cookiesOf(0), "n=1; o=2");
                return n;
            }
        }
        b.pass(1_000_000_000 - 10);
        return b.cookieCount() == 3 ? -1 : -2;
    }

    /** "1 .. 7 digits with perhaps a - in front; with 0 or less the END is TIME (it is over), else TIME and it" */
    private static void agesThatCount() {
        for (String over : new String[] {"0", "00", "0000000", "-0", "-0000000", "-1", "-5", "-9999999"}) {
            Bench.same("max-age " + over, lasts("max-age=" + over), 0);
        }
        String[] ages = {"1", "2", "3", "5", "99", "9999998", "9999999", "01", "0000001", " 5 "};
        int[] due = {1, 2, 3, 5, 99, 9_999_998, 9_999_999, 1, 1, 5};
        for (int i = 0; i < ages.length; i++) {
            Bench.same("max-age " + ages[i], lasts("max-age=" + ages[i]), due[i]);
        }
    }

    /** "MAX-AGE: passed over if it is not 1 .. 7 digits with perhaps a - in front" */
    private static void agesPassedOver() {
        for (String not : new String[] {"", "-", "--", "--1", "- 1", "-1-", "1-", "+1", "+0", "00000000", "00000001", "10000000", "-00000000",
            "-00000001", "-10000000", "4294967296", "4294967297", "99999999999999999999", "x", "1x", "x1", "0x1", "1.0", "1,0", "1 0", "/", ":",
            "0/", "0:"}) {
            Bench.same("max-age " + not, lasts("max-age=" + not), -1);
            Bench.same("5, then " + not, lasts("max-age=5; max-age=" + not), 5);
            Bench.same("0, then " + not, lasts("max-age=0; max-age=" + not), 0);
            Bench.same(not + ", then 5", lasts("max-age=" + not + "; max-age=5"), 5);
        }
        Bench.same("max-age", lasts("max-age"), -1);
        Bench.same("5, then none", lasts("max-age=5; max-age"), 5);
    }

    private static void lastAgeCounts() {
        Bench.same("5, 3", lasts("max-age=5; max-age=3"), 3);
        Bench.same("3, 5", lasts("max-age=3; max-age=5"), 5);
        Bench.same("5, 0", lasts("max-age=5; max-age=0"), 0);
        Bench.same("0, 5", lasts("max-age=0; max-age=5"), 5);
        Bench.same("-1, 5", lasts("max-age=-1; max-age=5"), 5);
        Bench.same("5, -1", lasts("max-age=5; max-age=-1"), 0);
    }

    private static void agesAtTheEndOfTime() {
        Bench b = at("http://a.com/");
        b.pass(1_000_000_000);
        comes(b, "n=3; max-age=9999999", "n=3; o=2");
        comes(b, "n=3; max-age=1", "n=3; o=2");
        comes(b, "n=3; max-age=0", "o=2");
        comes(b, "n=3; max-age=-9999999", "o=2");
        Bench early = at("http://a.com/");
        comes(early, "n=3; max-age=0", "o=2");
        comes(early, "n=3; max-age=-1", "o=2");
        comes(early, "n=3; max-age=1", "n=3; o=2");
    }

    /** "nor if it is SECURE and the request's scheme is http"; "SECURE ... whatever the value" */
    private static void secureByHttp() {
        for (String secure : new String[] {"secure", "SECURE", "Secure=", "secure=0", "secure=false", " secure ", "secure=no; secure"}) {
            nothingHappens(plain(), "n=3; " + secure);
            nothingHappens(plain(), "m=3; " + secure);
            nothingHappens(plain(), "n=3; max-age=0; " + secure);
            comes(at("https://a.com/"), "n=3; " + secure, "n=3; o=2");
            comes(at("https://a.com/"), "n=3; max-age=0; " + secure, "o=2");
        }
        nothingHappens(at("http://a.com:443/"), "n=3; secure");
        comes(at("https://a.com:80/"), "n=3; secure", "n=3; o=2");
        Bench b = at("https://a.com/");
        b.cookie(0, "n=3; secure; path=/");
        b.go(0, "http://a.com/");
        Bench.same("secure", b.cookiesOf(0), "o=2");
        b.cookie(0, "n=4");
        Bench.same("one that is not secure takes its place", b.cookiesOf(0), "n=4; o=2");
    }

    /** "Nothing happens if it is HIDDEN ... and it does not come by the NETWORK" */
    private static void hiddenByAFrame() {
        for (String hidden : new String[] {"httponly", "HTTPONLY", "HttpOnly=", "httponly=0", " httponly "}) {
            plain().refuses("a new one", true, "", c -> c.cookie(0, "m=3; " + hidden));
            plain().refuses("one in its place", true, "", c -> c.cookie(0, "n=3; " + hidden));
            plain().refuses("one that is over", true, "", c -> c.cookie(0, "n=3; max-age=0; " + hidden));
            Bench b = plain();
            b.set(0, "n=3; " + hidden);
            Bench.same("by the network", b.cookieCount(), 2);
            Bench.same("not to be seen", b.cookiesOf(0), "o=2");
            b.set(0, "n=3; max-age=0; " + hidden);
            Bench.same("by the network", b.cookieCount(), 1);
        }
    }

    /** "or one of its NAME, DOMAIN and PATH is there that is HIDDEN, and it does not come by the NETWORK" */
    private static void oneThereIsHidden() {
        Bench b = at("http://a.com/x/y");
        b.set(0, "h=3; httponly; path=/");
        for (String text : new String[] {"h=4; path=/", "h=4; path=/; domain=a.com", "h=4; path=/; max-age=0", "h=4; path=/; max-age=5",
            "h=4; path=/; httponly"}) {
            b.refuses(text, true, "", c -> c.cookie(0, text));
        }
        Bench other = b.copy();
        other.cookie(0, "h=4");
        Bench.same("another path", other.cookieCount(), 4);
        other.cookie(0, "H=4; path=/");
        Bench.same("another name", other.cookieCount(), 5);
        Bench below = new Bench();
        below.committed("http://x.a.com/");
        below.fetch(0, 1, true, "");
        below.set(0, "h=3; httponly");
        below.cookie(0, "h=4; domain=a.com");
        Bench.same("another domain", below.cookiesOf(0), "h=4");
        Bench net = b.copy();
        net.set(0, "h=5; path=/");
        Bench.same("by the network", net.cookiesOf(0), "n=1; o=2; h=5");
        Bench gone = b.copy();
        gone.set(0, "h=5; path=/; max-age=0");
        Bench.same("by the network", gone.cookieCount(), 2);
        Bench over = plain();
        over.set(0, "h=3; httponly; max-age=2");
        over.pass(1);
        over.refuses("hidden still", true, "", c -> c.cookie(0, "h=4"));
        over.pass(1);
        over.cookie(0, "h=4");
        Bench.same("one that is over is not there", over.cookiesOf(0), "n=1; o=2; h=4");
    }

    /** "nor with a PATH above 30 ... characters" */
    private static void pathOfThirty() {
        Bench b = plain();
        String thirty = "/" + "p".repeat(29);
        Bench told = b.copy();
        told.cookie(0, "n=3; path=" + thirty);
        Bench.same("30 told", told.cookieCount(), 3);
        told.go(0, thirty);
        Bench.same("30 told", told.cookiesOf(0), "n=3; n=1; o=2");
        nothingHappens(b, "n=3; path=" + thirty + "p");
        nothingHappens(b, "n=3; path=" + thirty + "/");
        nothingHappens(b, "n=3; path=/" + "p".repeat(140));
        Bench at30 = at("http://a.com" + thirty + "/");
        comes(at30, "n=3", "n=3; n=1; o=2");
        Bench at31 = at("http://a.com" + thirty + "p/");
        nothingHappens(at31, "n=3");
        nothingHappens(at31, "n=3; path=x");
        comes(at31, "n=3; path=/", "n=3; o=2");
        comes(at31, "n=3; path=" + thirty, "n=1; o=2");
    }

    /** "or a DOMAIN above 40 characters" */
    private static void domainOfForty() {
        comes(at("http://" + FORTY + "/"), "n=3", "n=3; o=2");
        comes(at("http://" + FORTY + "/"), "n=3; domain=" + FORTY, "n=3; o=2");
        Bench b = new Bench();
        b.committed("http://" + FORTY + "b/");
        b.fetch(0, 1, true, "");
        nothingHappens(b, "n=3");
        nothingHappens(b, "n=3; domain=" + FORTY + "b");
        comes(b, "n=3; domain=abcdefghijkl.abcdefghijkl.ab", "n=3");
        Bench below = new Bench();
        below.committed("http://x." + FORTY + "/");
        below.fetch(0, 1, true, "");
        nothingHappens(below, "n=3");
        comes(below, "n=3; domain=" + FORTY, "n=3");
        comes(below, "n=3; domain=." + FORTY, "n=3");
        Bench more = new Bench();
        more.committed("http://x." + FORTY + "b/");
        more.fetch(0, 1, true, "");
        nothingHappens(more, "n=3; domain=" + FORTY + "b");
    }

    /** "One with the same NAME, DOMAIN and PATH goes, and the new one has its number; else it has the next one." */
    private static void sameNameDomainAndPath() {
        Bench b = at("https://x.a.com/p/q");
        b.cookie(0, "r=3; path=/");
        comes(b, "o=4; path=/", "n=1; o=4; r=3");
        comes(b, "n=4; path=/", "n=4; o=2; r=3");
        comes(b, "r=4; path=/", "n=1; o=2; r=4");
        comes(b, "o=4; path=/; domain=x.a.com", "n=1; o=4; r=3");
        comes(b, "o=4; path=/; secure", "n=1; o=4; r=3");
        comes(b, "o=4; path=/; max-age=1", "n=1; o=4; r=3");
        comes(b, "O=4; path=/", "n=1; o=2; r=3; O=4");
        comes(b, "o=4; path=/; domain=a.com", "n=1; o=2; r=3; o=4");
        comes(b, "o=4; path=/p", "o=4; n=1; o=2; r=3");
        Bench secure = b.copy();
        secure.cookie(0, "o=4; path=/; secure; max-age=5");
        secure.cookie(0, "o=5; path=/");
        secure.pass(5);
        secure.go(0, "http://x.a.com/");
        Bench.same("all of the old one goes", secure.cookiesOf(0), "n=1; o=5; r=3");
        Bench wide = b.copy();
        wide.cookie(0, "o=4; path=/; domain=x.a.com");
        wide.cookie(0, "o=5; path=/");
        wide.go(0, "https://y.x.a.com/");
        Bench.same("for the HOST ALONE again", wide.cookiesOf(0), "");
    }

    /** "It comes, if it is not over." */
    private static void comesIfNotOver() {
        Bench b = plain();
        b.refuses("one that is over", true, "", c -> c.cookie(0, "m=3; max-age=0"));
        comes(b, "n=3; max-age=0", "o=2");
        comes(b, "o=3; max-age=-1", "n=1");
        Bench again = b.copy();
        again.cookie(0, "n=3; max-age=0");
        again.cookie(0, "n=4");
        Bench.same("its number is gone", again.cookiesOf(0), "o=2; n=4");
        Bench late = plain();
        late.cookie(0, "n=3; max-age=1");
        late.pass(1);
        late.cookie(0, "n=4");
        Bench.same("its number is gone with it", late.cookiesOf(0), "o=2; n=4");
        Bench inTime = plain();
        inTime.cookie(0, "n=3; max-age=2");
        inTime.pass(1);
        inTime.cookie(0, "n=4");
        Bench.same("its number is there with it", inTime.cookiesOf(0), "n=4; o=2");
    }

    private static String goes(String set, String text, String asked) {
        Bench b = new Bench();
        b.committed(set);
        b.fetch(0, 1, true, "");
        b.set(0, text);
        b.go(0, asked);
        return b.cookiesOf(0);
    }

    /** "whose DOMAIN is the host, or, if not for the HOST ALONE, the host ends with . and it" */
    private static void goingWithHosts() {
        String[][] due = {{"", "a.b", "n=1"}, {"", "x.a.b", ""}, {"", "b", ""}, {"", "xa.b", ""}, {"", "a.b.a.b", ""}, {"domain=a.b", "a.b", "n=1"},
            {"domain=a.b", "x.a.b", "n=1"}, {"domain=a.b", "y.x.a.b", "n=1"}, {"domain=a.b", "xa.b", ""}, {"domain=a.b", "b", ""},
            {"domain=a.b", "a.b.c", ""}, {"domain=a.b", "a.bb", ""}, {"domain=a.b", "a-b", ""}, {"domain=a.b", "a.b.a.b", "n=1"}};
        for (String[] row : due) {
            Bench.same(row[0] + " at " + row[1], goes("http://a.b/", "n=1; " + row[0], "http://" + row[1] + "/"), row[2]);
            Bench.same(row[0] + " at another port", goes("http://a.b/", "n=1; " + row[0], "https://" + row[1] + ":81/"), row[2]);
        }
    }

    /** "whose PATH is that of the address, or begins it and (ends with / or a / follows)" */
    private static void goingWithPaths() {
        String[][] due = {{"/", "/", "n=1"}, {"/", "/x", "n=1"}, {"/", "//", "n=1"}, {"/x", "/x", "n=1"}, {"/x", "/x/", "n=1"},
            {"/x", "/x/y", "n=1"}, {"/x", "/x?y", "n=1"}, {"/x", "/xy", ""}, {"/x", "/x.", ""}, {"/x", "/", ""}, {"/x", "/y/x", ""},
            {"/x", "/X", ""}, {"/x", "/y?/x", ""}, {"/x/", "/x/", "n=1"}, {"/x/", "/x/y", "n=1"}, {"/x/", "/x", ""}, {"/x/", "/x?/", ""},
            {"/x/y", "/x/y", "n=1"}, {"/x/y", "/x", ""}, {"/x/y", "/x/yz", ""}, {"/x/y", "/x/y/z", "n=1"}, {"/x//", "/x//y", "n=1"},
            {"/x//", "/x/y", ""}, {"/=", "/", ""}};
        for (String[] row : due) {
            Bench.same(row[0] + " at " + row[1], goes("http://a.b/", "n=1; path=" + row[0], "http://a.b" + row[1]), row[2]);
        }
    }

    /** "not SECURE, or the scheme is https" */
    private static void goingWithSchemes() {
        Bench.same("secure", goes("https://a.b/", "n=1; secure", "https://a.b/"), "n=1");
        Bench.same("secure", goes("https://a.b/", "n=1; secure", "https://a.b:80/"), "n=1");
        Bench.same("secure", goes("https://a.b/", "n=1; secure", "http://a.b/"), "");
        Bench.same("secure", goes("https://a.b/", "n=1; secure", "http://a.b:443/"), "");
        Bench.same("not", goes("https://a.b/", "n=1", "http://a.b/"), "n=1");
        Bench.same("not", goes("http://a.b/", "n=1", "https://a.b/"), "n=1");
    }

    /** "not HIDDEN, or by the NETWORK" */
    private static void goingByTheNetwork() {
        Bench b = plain();
        b.set(0, "h=3; httponly");
        Bench.same("not by a frame", b.cookiesOf(0), "n=1; o=2");
        b.fetch(0, 0, true, "");
        b.fetch(0, 0, false, "");
        b.enter("http://a.com");
        b.child(0, "");
        b.lead(1, "");
        b.lead(2, "");
        Bench.same("by the network", b.messages(), "1 1 0 http://a.com/ n=1; o=2; h=3|1 2 0 http://a.com/|1 3 0 http://a.com/ n=1; o=2; h=3"
                + "|1 4 1 http://a.com/ n=1; o=2; h=3|1 1 0 http://a.com/ n=1; o=2; h=3|1 2 0 http://a.com/");
        b.enter("http://b.com");
        Bench.same("none going with it: no blank", b.messages(), "1 3 0 http://b.com/");
    }

    /** "cookies that are not over" */
    private static void goingUntilOver() {
        Bench b = plain();
        b.cookie(0, "p=3; max-age=2");
        b.pass(1);
        Bench.same("not over", b.cookiesOf(0), "n=1; o=2; p=3");
        Bench.same("counted", b.cookieCount(), 3);
        b.pass(1);
        Bench.same("over", b.cookiesOf(0), "n=1; o=2");
        Bench.same("not counted", b.cookieCount(), 2);
        b.clear();
        b.fetch(0, 0, true, "");
        Bench.same("nor by the network", b.messages(), "1 1 0 http://a.com/ n=1; o=2");
    }

    /** "In order: longer PATHS first, then by numbers." */
    private static void goingInOrder() {
        Bench b = new Bench();
        b.committed("http://x.a.com/p/q/r");
        b.cookie(0, "a=1; path=/");
        b.cookie(0, "b=2; path=/p/q/r");
        b.cookie(0, "c=3; path=/p");
        b.cookie(0, "d=4; path=/p/");
        b.cookie(0, "e=5; path=/p; domain=a.com");
        b.cookie(0, "f=6; path=/p/q");
        b.cookie(0, "g=7; path=/");
        b.cookie(0, "c=8; path=/p");
        Bench.same("in order", b.cookiesOf(0), "b=2; f=6; d=4; c=8; e=5; a=1; g=7");
    }

    /** Promise 13: "by the NETWORK, of r's address ... if r is a FETCH without cookies nothing is set" */
    private static void setByRequests() {
        Bench b = plain();
        int without = b.fetch(0, 0, false, "");
        int with = b.fetch(0, 2, true, "https://b.com/d/e");
        int inner = b.child(0, "http://c.com/");
        b.clear();
        for (String text : new String[] {"n=3", "m=3", "n=3; max-age=0", "h=3; httponly"}) {
            b.refuses("without cookies " + text, true, "", c -> {
                c.set(without, text);
                return true;
            });
        }
        b.set(with, "s=3; secure");
        b.set(b.about(inner, 4), "t=4; domain=c.com");
        Bench.same("of the frame's address none", b.cookiesOf(0), "n=1; o=2");
        b.go(0, "https://b.com/d");
        Bench.same("of the request's address", b.cookiesOf(0), "s=3");
        b.go(0, "http://x.c.com/");
        Bench.same("of the navigation's address", b.cookiesOf(0), "t=4");
        Bench own = plain();
        int navigation = own.navigate(0, 0, "http://a.com/y");
        own.set(navigation, "h=3; httponly");
        own.set(navigation, "n=4; httponly");
        Bench.same("a navigation's is by the network", own.cookieCount(), 3);
        Bench.same("so it may be hidden", own.cookiesOf(0), "o=2");
        own.set(navigation, "n=5");
        Bench.same("and take a hidden one's place", own.cookiesOf(0), "n=5; o=2");
        Bench led = plain();
        led.lead(0, "http://d.com/x/");
        led.set(0, "u=5");
        led.go(0, "http://d.com/x");
        Bench.same("of the address it is led to", led.cookiesOf(0), "u=5");
    }

    /** Promises 16 and 17: "NONE if it is not committed", "false if it is not committed" */
    private static void cookiesOfFrames() {
        Bench b = plain();
        int inner = b.child(0, "http://a.com/");
        b.cookies(0);
        b.refuses("not committed", -1, "", c -> c.cookies(inner));
        b.refuses("not committed", false, "", c -> c.cookie(inner, "n=3"));
        b.refuses("not committed", false, "", c -> c.cookie(inner, "m=3"));
        b.refuses("not committed", false, "", c -> c.cookie(inner, ""));
        b.answer(b.about(inner, 4));
        Bench.same("committed", b.cookies(inner), 8);
        Bench.same("committed", b.cookie(inner, ""), true);
        b.go(inner, "http://b.com");
        Bench.same("none", b.cookies(inner), 0);
        Bench.same("nothing is shown", b.shown(0), -1);
        Bench most = new Bench();
        most.committed("http://a.com");
        for (int i = 10; i < 50; i++) {
            most.cookie(0, "nameof8910" + i + "=" + "valueof910" + i);
        }
        Bench.same("as long as it can be", most.cookies(0), 40 * 27 - 2);
        Bench.same("first", most.shown(0), (int) 'n');
        Bench.same("last", most.shown(40 * 27 - 3), (int) '9');
        Bench.same("behind", most.shown(40 * 27 - 2), -1);
    }
}
