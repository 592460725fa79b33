/** The edges of THE SITE of a HOST, of what IS A SUFFIX, and of "At most 40 in all, QUOTA in the domains of a SITE." */
public final class EdgeJarTest {
    public static void main(String[] args) {
        sitesWithoutSuffix();
        sitesWithSuffix();
        theLongestSuffix();
        suffixesOfSixLabels();
        suffixesSplitSites();
        upToTheQuota();
        quotaOfASite();
        quotaOfDomains();
        theOneThatCameFirst();
        overOnesGoFirst();
        nothingGoesForNothing();
        fortyInAll();
        fortyStay();
        quotaBeforeForty();
        Bench.end();
    }

    /** Whether cookies of two hosts share a quota of one, whichever comes first. */
    private static void share(String suffixes, String one, String two, boolean want) {
        String what = one + " and " + two + " with " + suffixes;
        Bench.same(what, left(suffixes, one, two), want ? 1 : 2);
        Bench.same(what + ", by turns", left(suffixes, two, one), want ? 1 : 2);
    }

    private static int left(String suffixes, String one, String two) {
        Bench b = new Bench(1);
        for (String suffix : suffixes.split(" ")) {
            b.suffix(suffix);
        }
        b.committed("http://" + one);
        b.cookie(0, "a=1");
        b.go(0, "http://" + two);
        b.cookie(0, "b=2");
        Bench.same("the latter stays", b.cookiesOf(0), "b=2");
        return b.cookieCount();
    }

    /** "without such a suffix its last label and one more, if there is one" */
    private static void sitesWithoutSuffix() {
        share("", "a", "b", false);
        share("", "a", "b.a", false);
        share("", "b.a", "c.b.a", true);
        share("", "c.b.a", "d.b.a", true);
        share("", "e.d.c.b.a", "b.a", true);
        share("", "f.e.d.c.b.a", "x.d.c.b.a", true);
        share("", "b.a", "c.a", false);
        share("", "b.a", "b.c", false);
        share("", "c.b.a", "c.d.a", false);
        share("", "cb.a", "b.a", false);
        share("", "ba", "b.a", false);
        share("x y.z", "c.b.a", "d.b.a", true);
    }

    /** "the longest of the SUFFIXES that it ends with (behind a . , or that it is), and one label more, if there is one" */
    private static void sitesWithSuffix() {
        share("b.a", "c.b.a", "d.b.a", false);
        share("b.a", "c.b.a", "d.c.b.a", true);
        share("b.a", "e.c.b.a", "d.c.b.a", true);
        share("b.a", "b.a", "c.b.a", false);
        share("b.a", "c.xb.a", "d.xb.a", true);
        share("b.a", "xb.a", "c.xb.a", true);
        share("b.a", "d.a", "c.d.a", true);
        share("b.a", "b.a.c", "d.a.c", true);
        share("a", "b.a", "c.b.a", true);
        share("a", "b.a", "c.a", false);
        share("a", "a", "b.a", false);
        share("B.A", "c.b.a", "d.b.a", false);
        share("c.b.a", "b.a", "d.b.a", true);
        share("c.b.a", "c.b.a", "b.a", false);
    }

    private static void theLongestSuffix() {
        for (String order : new String[] {"a b.a c.b.a", "c.b.a b.a a", "b.a c.b.a a", "b.a a c.b.a"}) {
            share(order, "x.c.b.a", "y.c.b.a", false);
            share(order, "x.c.b.a", "y.x.c.b.a", true);
            share(order, "c.b.a", "x.c.b.a", false);
            share(order, "x.d.b.a", "d.b.a", true);
            share(order, "d.b.a", "e.b.a", false);
            share(order, "b.a", "d.b.a", false);
            share(order, "x.y.a", "y.a", true);
        }
    }

    private static void suffixesOfSixLabels() {
        share("f.e.d.c.b.a", "f.e.d.c.b.a", "e.d.c.b.a", false);
        share("e.d.c.b.a", "f.e.d.c.b.a", "g.e.d.c.b.a", false);
        share("e.d.c.b.a", "d.c.b.a", "x.d.c.b.a", true);
    }

    /** The sites are those of the SUFFIXES that there are when a cookie comes. */
    private static void suffixesSplitSites() {
        Bench b = new Bench(2);
        b.committed("http://c.b.a");
        b.cookie(0, "m=1");
        b.go(0, "http://d.b.a");
        b.cookie(0, "n=2");
        b.suffix("b.a");
        b.cookie(0, "o=3");
        Bench.same("two of this site", b.cookieCount(), 3);
        b.cookie(0, "p=4");
        Bench.same("two of this site", b.cookiesOf(0), "o=3; p=4");
        Bench.same("one of the other", b.cookieCount(), 3);
    }

    private static void fill(Bench b, String name, int count) {
        for (int i = 0; i < count; i++) {
            b.cookie(0, name + (10 + i) + "=");
        }
    }

    private static void upToTheQuota() {
        for (int quota : new int[] {1, 2, 5, 39, 40}) {
            Bench b = new Bench(quota);
            b.committed("http://a.com");
            fill(b, "n", quota);
            Bench.same("all of " + quota, b.cookieCount(), quota);
            Bench.same("the first of " + quota, b.cookiesOf(0).startsWith("n10="), true);
            b.cookie(0, "m=");
            Bench.same("one more", b.cookieCount(), quota);
            Bench.same("the first goes", b.cookiesOf(0).startsWith(quota == 1 ? "m=" : "n11="), true);
            Bench.same("the new one is there", b.cookiesOf(0).endsWith("m="), true);
            b.cookie(0, "l=");
            Bench.same("one more", b.cookieCount(), quota);
            Bench.same("the new one is there", b.cookiesOf(0).endsWith(quota == 1 ? "l=" : "m=; l="), true);
        }
    }

    /** "QUOTA in the domains of a SITE": another site's are not counted, and do not go. */
    private static void quotaOfASite() {
        Bench b = new Bench(2);
        b.committed("http://b.com");
        fill(b, "b", 2);
        b.go(0, "http://a.com");
        fill(b, "a", 2);
        Bench.same("two and two", b.cookieCount(), 4);
        fill(b, "c", 1);
        Bench.same("two and two", b.cookiesOf(0), "a11=; c10=");
        b.go(0, "http://b.com");
        Bench.same("the other's", b.cookiesOf(0), "b10=; b11=");
    }

    private static void quotaOfDomains() {
        Bench b = new Bench(3);
        b.committed("http://x.a.com");
        b.cookie(0, "l=1");
        b.cookie(0, "m=2; domain=a.com");
        b.go(0, "http://y.a.com");
        b.cookie(0, "n=3");
        Bench.same("three", b.cookieCount(), 3);
        b.cookie(0, "o=4; domain=a.com");
        Bench.same("three", b.cookieCount(), 3);
        Bench.same("of y", b.cookiesOf(0), "m=2; n=3; o=4");
        b.go(0, "http://x.a.com");
        Bench.same("the first was x's", b.cookiesOf(0), "m=2; o=4");
        b.cookie(0, "p=5; path=/p");
        b.cookie(0, "q=6");
        Bench.same("whatever its path", b.cookiesOf(0), "o=4; q=6");
        Bench.same("three", b.cookieCount(), 3);
    }

    /** "the one of these that came first": one in another's place has its number. */
    private static void theOneThatCameFirst() {
        Bench b = new Bench(2);
        b.committed("http://a.com");
        b.cookie(0, "l=1; path=/p");
        b.cookie(0, "m=2");
        b.cookie(0, "l=3; path=/p");
        Bench.same("two", b.cookieCount(), 2);
        b.cookie(0, "n=4");
        Bench.same("l came first", b.cookiesOf(0), "m=2; n=4");
        b.cookie(0, "m=5; max-age=0");
        b.cookie(0, "m=6");
        b.cookie(0, "o=7");
        Bench.same("m came anew", b.cookiesOf(0), "m=6; o=7");
    }

    /** "first those that are over go": they take no room. */
    private static void overOnesGoFirst() {
        Bench b = new Bench(2);
        b.committed("http://a.com");
        b.cookie(0, "l=1");
        b.cookie(0, "m=2; max-age=1");
        Bench early = b.copy();
        early.cookie(0, "n=3");
        Bench.same("not over yet", early.cookiesOf(0), "m=2; n=3");
        b.pass(1);
        b.cookie(0, "n=3");
        Bench.same("over", b.cookiesOf(0), "l=1; n=3");
        Bench all = new Bench(20);
        all.committed("http://a.com");
        fill(all, "a", 20);
        all.go(0, "http://b.com");
        fill(all, "b", 19);
        all.cookie(0, "o=; max-age=1");
        all.pass(1);
        all.go(0, "http://c.com");
        all.cookie(0, "n=3");
        Bench.same("40 with the new one", all.cookieCount(), 40);
        all.go(0, "http://a.com");
        Bench.same("none of a's goes", all.cookiesOf(0).startsWith("a10=; a11="), true);
    }

    /** One that does not come, and one in another's place, drive out none. */
    private static void nothingGoesForNothing() {
        Bench b = new Bench(2);
        b.committed("http://a.com");
        b.cookie(0, "l=1");
        b.cookie(0, "m=2");
        for (String text : new String[] {"n=3; max-age=0", "n=3; max-age=-1", "n=3; httponly", "n=3; secure", "n", "n=1234567890123",
            "n=3; domain=com", "n=3; domain=b.com", "n=3; path=/" + "p".repeat(30)}) {
            b.refuses(text, true, "", c -> c.cookie(0, text));
        }
        b.cookie(0, "m=4");
        Bench.same("in its place", b.cookiesOf(0), "l=1; m=4");
        b.cookie(0, "l=5; max-age=0");
        Bench.same("over", b.cookiesOf(0), "m=4");
    }

    /** 20 of a.com, which came first, and 20 of b.com, where frame 0 is. */
    private static Bench forty(int quota) {
        Bench b = new Bench(quota);
        b.committed("http://a.com");
        fill(b, "a", 20);
        b.go(0, "http://b.com");
        fill(b, "b", 20);
        b.clear();
        return b;
    }

    private static String at(Bench from, String host) {
        Bench b = from.copy();
        b.go(0, "http://" + host);
        return b.cookiesOf(0);
    }

    /** "then, while there are more than 40, the one that came first" */
    private static void fortyInAll() {
        Bench b = forty(40);
        Bench.same("forty", b.cookieCount(), 40);
        Bench.same("all of a's", at(b, "a.com").length(), 20 * 6 - 2);
        b.cookie(0, "b30=");
        Bench.same("forty", b.cookieCount(), 40);
        Bench.same("a's first goes", at(b, "a.com").startsWith("a11=; a12="), true);
        Bench.same("b's stay", at(b, "b.com").length(), 21 * 6 - 2);
        b.go(0, "http://c.com");
        b.cookie(0, "c10=");
        Bench.same("forty", b.cookieCount(), 40);
        Bench.same("a's next goes", at(b, "a.com").startsWith("a12=; a13="), true);
        Bench.same("the new one stays", b.cookiesOf(0), "c10=");
    }

    private static void fortyStay() {
        Bench b = forty(40);
        for (String text : new String[] {"n=3; max-age=0", "n=3; httponly", "n=3; secure", "n", "n=3; domain=com", "=3"}) {
            b.refuses(text, true, "", c -> c.cookie(0, text));
            Bench other = b.copy();
            other.cookie(0, text);
            Bench.same("a's stay", at(other, "a.com"), at(b, "a.com"));
        }
        b.cookie(0, "b10=x");
        Bench.same("one in another's place", b.cookieCount(), 40);
        Bench.same("a's stay", at(b, "a.com").startsWith("a10=; a11="), true);
        b.cookie(0, "b10=x; max-age=0");
        Bench.same("one less", b.cookieCount(), 39);
        b.cookie(0, "b31=");
        Bench.same("room for one", b.cookieCount(), 40);
        Bench.same("a's stay", at(b, "a.com").startsWith("a10=; a11="), true);
    }

    /** "Then, while there are more than QUOTA ...; then, while there are more than 40" */
    private static void quotaBeforeForty() {
        Bench b = forty(20);
        b.cookie(0, "b30=");
        Bench.same("forty", b.cookieCount(), 40);
        Bench.same("a's stay", at(b, "a.com").startsWith("a10=; a11="), true);
        Bench.same("b's first goes", at(b, "b.com").startsWith("b11=; b12="), true);
        b.go(0, "http://c.com");
        b.cookie(0, "c10=");
        Bench.same("a's first goes", at(b, "a.com").startsWith("a11=; a12="), true);
        Bench.same("b's stay", at(b, "b.com").startsWith("b11=; b12="), true);
    }
}
