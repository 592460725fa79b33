import java.util.function.Consumer;

/** The edges of the LINE and of promises 1 (a new object), 2 (type), 3 (suffix) and 4 (pass), sentence by sentence. */
public final class EdgeLineTest {
    private static final String LABEL = "abcdefghijkl";

    public static void main(String[] args) {
        atMost160();
        charactersOfALine();
        noneComesOfARefusedWord();
        zerosAreNoCharacters();
        takenWhateverIsAnswered();
        notTaken();
        quotas();
        nothingAtFirst();
        noHostIsNoSuffix();
        suffixIsThere();
        eightSuffixes();
        refusedSuffixIsNone();
        passing();
        passingWrapsNowhere();
        passRefused();
        fiveHundredAndTwelveCalls();
        Bench.end();
    }

    /** With request 0 under way, so that a copy can tell what is in the line. */
    private static Bench typing(String text) {
        Bench b = new Bench();
        b.open("http://a");
        b.clear();
        return b.line(text);
    }

    private static String lineOf(Bench b) {
        Bench other = b.copy();
        other.answer(0);
        return other.messageText(1);
    }

    private static void typed(int before, String word, int want) {
        String text = "0123456789".repeat(16).substring(0, before);
        Bench b = typing(text);
        String what = word.length() + " more to " + before;
        Bench.same(what, b.type(Bench.packed(word)), want);
        Bench.same(what + " has", b.lineLength(), want == -1 ? before : want);
        Bench.same(what + " is", lineOf(b), want == -1 ? text : text + word);
    }

    /** "THE LINE has at most 160 characters"; "NONE, and none comes, if ... it would have more than 160." */
    private static void atMost160() {
        typed(0, "", 0);
        typed(0, "a", 1);
        typed(0, "abcdefgh", 8);
        typed(151, "abcdefgh", 159);
        typed(152, "abcdefgh", 160);
        typed(153, "abcdefgh", -1);
        typed(157, "abc", 160);
        typed(158, "abc", -1);
        typed(159, "a", 160);
        typed(159, "ab", -1);
        typed(159, "abcdefgh", -1);
        typed(160, "", 160);
        typed(160, "a", -1);
        typed(160, "abcdefgh", -1);
        Bench full = typing("x".repeat(160));
        Bench.same("full", full.type('y'), -1);
        Bench.same("full still", full.type('y'), -1);
        full.answer(0);
        Bench.same("room again", full.type('y'), 1);
    }

    /** "characters 32 .. 126", at each of the eight bytes. */
    private static void charactersOfALine() {
        for (int shift = 0; shift < 64; shift += 8) {
            long beside = shift == 0 ? 'a' << 8 : 'a';
            for (int c = 0; c < 256; c++) {
                Bench b = new Bench();
                int want = c == 0 ? 1 : c >= 32 && c <= 126 ? 2 : -1;
                Bench.same("byte " + c + " at " + shift, b.type((long) c << shift | beside), want);
                Bench.same("byte " + c + " at " + shift + " leaves", b.lineLength(), Math.max(0, want));
            }
        }
        for (long w : new long[] {-1, Long.MIN_VALUE, Long.MAX_VALUE, 0x8080808080808080L, 0xE1E1E1E1E1E1E1E1L}) {
            Bench.same("word " + w, new Bench().type(w), -1);
        }
        Bench.same("all least", new Bench().type(0x2020202020202020L), 8);
        Bench.same("all greatest", new Bench().type(0x7E7E7E7E7E7E7E7EL), 8);
    }

    private static void noneComesOfARefusedWord() {
        for (int at = 0; at < 8; at++) {
            for (int c : new int[] {1, 31, 127, 128, 255}) {
                long w = Bench.packed("abcdefgh") & ~(255L << 8 * at) | (long) c << 8 * at;
                Bench b = typing("before");
                Bench.same(c + " among others", b.type(w), -1);
                Bench.same(c + " among others leaves", lineOf(b), "before");
                Bench.same("the next one", b.type('!'), 7);
                Bench.same("the next one comes", lineOf(b), "before!");
            }
        }
        Bench both = typing("x".repeat(159));
        Bench.same("too long, and no character", both.type(0x6101L), -1);
        Bench.same("no character, too long then", both.type(0x0161L), -1);
        Bench.same("as it was", both.lineLength(), 159);
    }

    /** "The characters that are bytes of w, the highest first, but for those that are 0" */
    private static void zerosAreNoCharacters() {
        Bench b = typing("");
        Bench.same("none", b.type(0), 0);
        Bench.same("between", b.type(0x0061000062630000L), 3);
        Bench.same("the highest alone", b.type(0x6400000000000000L), 4);
        Bench.same("the lowest alone", b.type(0x65L), 5);
        Bench.same("the highest first", lineOf(b), "abcde");
        Bench near = typing("x".repeat(158));
        Bench.same("two with zeros", near.type(0x6100000000000062L), 160);
        Bench.same("zeros alone", near.type(0), 160);
        Bench.same("in order", lineOf(near).substring(156), "xxab");
    }

    private static Bench busy() {
        Bench b = new Bench();
        b.committed("http://a.com");
        b.child(0, "y");
        b.fetch(0, 0, true, "z");
        return b;
    }

    private static void takes(String what, String text, Consumer<Bench> call) {
        Bench b = busy().line(text);
        Bench.same(what + " has a line of", b.lineLength(), text.length());
        try {
            call.accept(b);
        } catch (IndexOutOfBoundsException e) {
            // The line is taken all the same.
        }
        Bench.same(what + " takes " + text, b.lineLength(), 0);
        Bench.same(what + " leaves nothing ahead of the next", b.type('n'), 1);
    }

    /** "A call that TAKES it uses it and leaves it empty, whatever it answers or throws." */
    private static void takenWhateverIsAnswered() {
        for (String text : new String[] {"co.uk", "http://b.com", "x", "n=1", "*", "/", ":", " ", "~".repeat(160)}) {
            takes("suffix", text, Bench::suffix);
            takes("open", text, Bench::open);
            takes("enter", text, Bench::enter);
            for (int f : new int[] {0, 1, 2, -1, 16}) {
                takes("child", text, b -> b.child(f));
                takes("navigate", text, b -> b.navigate(f, 0));
                takes("navigate", text, b -> b.navigate(0, f));
                takes("fetch", text, b -> b.fetch(f, 0, true));
                takes("fetch, no such mode", text, b -> b.fetch(f, 3, true));
                takes("cookie", text, b -> b.cookie(f));
                takes("post", text, b -> b.post(f, 0, 1));
                takes("post", text, b -> b.post(0, f, 1));
            }
            for (int r : new int[] {0, 1, 2, -1, 24}) {
                takes("answer", text, b -> b.answer(r));
                takes("set", text, b -> b.set(r));
                takes("leave", text, b -> b.leave(r, true));
                takes("lead", text, b -> b.lead(r));
            }
        }
        takes("set without cookies", "n=1", b -> b.set(b.fetch(0, 0, false)));
    }

    private static void keeps(String what, Consumer<Bench> call) {
        Bench b = busy().line("http://k");
        try {
            call.accept(b);
        } catch (IndexOutOfBoundsException e) {
            // The line stays all the same.
        }
        Bench.same(what + " keeps the line", b.lineLength(), 8);
        b.clear();
        b.open();
        Bench.same(what + " keeps what is in it", b.messageText(0), "http://k/");
    }

    private static void notTaken() {
        for (int k : new int[] {0, 1, 3, 4, -1, 16}) {
            keeps("close", b -> b.close(k));
            keeps("focus", b -> b.focus(k));
            keeps("cookies", b -> b.cookies(k));
            keeps("store", b -> b.store(k, 0, 1));
            keeps("stored", b -> b.stored(k, 0));
            keeps("about", b -> b.about(0, k));
            keeps("message", b -> b.message(k, 0));
            keeps("letter", b -> b.letter(0, k));
            keeps("shown", b -> b.shown(k));
            keeps("pass", b -> b.pass(k));
        }
        keeps("bar", Bench::bar);
        keeps("clear", Bench::clear);
    }

    private static int kept(int quota) {
        Bench b = new Bench(quota);
        int top = b.committed("http://a.com");
        for (int i = 10; i < 52; i++) {
            b.cookie(top, "n" + i + "=");
        }
        return b.cookieCount();
    }

    /** "QUOTA is quota, 1 if less, 40 if more." */
    private static void quotas() {
        int[][] due = {{Integer.MIN_VALUE, 1}, {-40, 1}, {-1, 1}, {0, 1}, {1, 1}, {2, 2}, {39, 39}, {40, 40}, {41, 40},
            {42, 40}, {256, 40}, {257, 40}, {Integer.MAX_VALUE, 40}};
        for (int[] row : due) {
            Bench.same("quota " + row[0], kept(row[0]), row[1]);
        }
    }

    /** "No suffixes, no tabs." "TIME is 0 at first." */
    private static void nothingAtFirst() {
        for (int quota : new int[] {-1, 0, 1, 40, 41}) {
            Bench b = new Bench(quota);
            for (int k = -1; k <= 24; k++) {
                for (int what = 0; what <= 7; what++) {
                    Bench.same("about(" + k + ", " + what + ")", b.about(k, what), -1);
                }
                Bench.same("shown", b.shown(k), -1);
                Bench.same("message", b.message(k, 0), -1);
                Bench.same("letter", b.letter(k, 0), -1);
            }
            Bench.same("cookies", b.cookieCount(), 0);
            Bench.same("messages", b.messageCount(), 0);
            Bench.same("suffixes", b.about(0, 10), 0);
            Bench.same("line", b.lineLength(), 0);
            Bench.same("time", b.time(), 0);
            Bench.same("bar", b.bar(), 0);
        }
        Bench one = new Bench();
        one.suffix("com");
        one.committed("http://a.com");
        one.cookie(0, "n=1");
        one.store(0, 0, 5);
        one.pass(3);
        Bench two = new Bench();
        Bench.same("another object has a time of its own", two.time(), 0);
        Bench.same("and suffixes", two.about(0, 10), 0);
        two.committed("http://a.com");
        Bench.same("and cookies", two.cookiesOf(0), "");
        Bench.same("and storage", two.stored(0, 0), 0);
    }

    private static void host(String text, boolean is) {
        Bench b = new Bench();
        if (is) {
            Bench.same("a host: " + text, b.suffix(text), 1);
            Bench.same("one more: " + text, b.about(0, 10), 1);
        } else {
            b.refuses("no host: " + text, -1, "", c -> c.suffix(text));
        }
    }

    /** "NONE if it is no HOST": labels of 1 to 12, 1 to 6 of them. */
    private static void noHostIsNoSuffix() {
        host("", false);
        host("a", true);
        host(LABEL, true);
        host(LABEL + "m", false);
        host("a." + LABEL, true);
        host("a." + LABEL + "m", false);
        host(LABEL + "m.a", false);
        host("a." + LABEL + "m.b", false);
        host("a.b.c.d.e", true);
        host("a.b.c.d.e.f", true);
        host("a.b.c.d.e.f.g", false);
        host((LABEL + ".").repeat(5) + LABEL, true);
        host((LABEL + ".").repeat(6) + "a", false);
        host((LABEL + ".").repeat(5) + LABEL + "m", false);
        for (String none : new String[] {".", "..", ".a", "a.", "a..b", "a.b.c.d.e.f.", ".a.b.c.d.e.f", " ", " a", "a ", "a b",
            "a/", "a:80", "http://a", "*", "-.", "x".repeat(160)}) {
            host(none, false);
        }
        for (char c = 32; c <= 126; c++) {
            boolean of = c >= 'a' && c <= 'z' || c >= 'A' && c <= 'Z' || c >= '0' && c <= '9' || c == '-';
            host(String.valueOf(c), of);
            host("a" + c + "b", of || c == '.');
        }
    }

    /** "NONE if it ... is there": great letters as small ones. */
    private static void suffixIsThere() {
        Bench b = new Bench();
        Bench.same("first", b.suffix("Co.UK"), 1);
        for (String there : new String[] {"co.uk", "CO.UK", "cO.uK"}) {
            b.refuses("is there: " + there, -1, "", c -> c.suffix(there));
        }
        Bench.same("its end is another", b.suffix("uk"), 2);
        Bench.same("a longer one is another", b.suffix("x.co.uk"), 3);
        Bench.same("one with the same letters is another", b.suffix("co-uk"), 4);
        b.refuses("is there", -1, "", c -> c.suffix("UK"));
        b.refuses("the last one is there", -1, "", c -> c.suffix("co-uk"));
        Bench.same("A and Z", b.suffix("AZ"), 5);
        b.refuses("a and z", -1, "", c -> c.suffix("az"));
    }

    /** "NONE if ... there are 8." */
    private static void eightSuffixes() {
        Bench b = new Bench();
        for (int i = 1; i <= 8; i++) {
            Bench.same("suffix " + i, b.suffix("s" + i), i);
        }
        b.refuses("a ninth", -1, "", c -> c.suffix("s9"));
        b.refuses("one that is there", -1, "", c -> c.suffix("s8"));
        b.refuses("no host", -1, "", c -> c.suffix("s_"));
        Bench.same("eight", b.about(0, 10), 8);
        b.refuses("a ninth, again", -1, "", c -> c.suffix("s9"));
    }

    private static void refusedSuffixIsNone() {
        Bench b = new Bench();
        for (int i = 1; i <= 7; i++) {
            b.suffix("s" + i + ".com");
        }
        b.suffix("s8.com.");
        b.committed("http://a.s8.com");
        b.cookie(0, "n=1; domain=s8.com");
        Bench.same("no host", b.cookieCount(), 1);
        b.suffix("s8.com");
        b.suffix("s9.com");
        b.go(0, "http://a.s9.com");
        b.cookie(0, "n=1; domain=s9.com");
        Bench.same("the ninth is none", b.cookieCount(), 2);
        b.go(0, "http://b.s8.com");
        b.cookie(0, "m=1; domain=s8.com");
        Bench.same("the eighth is one", b.cookieCount(), 2);
        b.go(0, "http://b.s1.com");
        b.cookie(0, "m=1; domain=s1.com");
        Bench.same("so is the first", b.cookieCount(), 2);
    }

    /** "TIME becomes n more: TIME. NONE if n is below 0 or it would be above 1,000,000,000." */
    private static void passing() {
        Bench b = new Bench();
        Bench.same("nothing", b.pass(0), 0);
        Bench.same("the least", b.pass(1), 1);
        Bench.same("nothing", b.pass(0), 1);
        Bench.same("all but one", b.pass(999_999_998), 999_999_999);
        Bench.same("the last", b.pass(1), 1_000_000_000);
        Bench.same("nothing, at the end", b.pass(0), 1_000_000_000);
        b.refuses("beyond the end", -1, "", c -> c.pass(1));
        Bench.same("all at once", new Bench().pass(1_000_000_000), 1_000_000_000);
        new Bench().refuses("more than all at once", -1, "", c -> c.pass(1_000_000_001));
    }

    private static void passingWrapsNowhere() {
        for (int before : new int[] {0, 1, 5, 999_999_999, 1_000_000_000}) {
            Bench b = new Bench();
            b.pass(before);
            int most = 1_000_000_000 - before;
            for (int n : new int[] {-1, -2, -before - 1, Integer.MIN_VALUE, Integer.MIN_VALUE + 1, most + 1, most + 2,
                1_147_483_648, 1_147_483_647, 2_000_000_000, Integer.MAX_VALUE}) {
                b.refuses(n + " at " + before, -1, "", c -> c.pass(n));
            }
            Bench.same("up to the end", b.pass(most), 1_000_000_000);
        }
    }

    /** A pass that is refused ends no cookie. */
    private static void passRefused() {
        Bench b = new Bench();
        b.committed("http://a.com");
        b.cookie(0, "n=1; max-age=1");
        b.pass(-1);
        b.pass(Integer.MAX_VALUE);
        b.pass(1_000_000_001);
        b.pass(0);
        Bench.same("not over", b.cookiesOf(0), "n=1");
        b.pass(1);
        Bench.same("over", b.cookiesOf(0), "");
    }

    /** "An object is used for at most 512 calls after it has been made" */
    private static void fiveHundredAndTwelveCalls() {
        TabKernel kernel = new TabKernel(40);
        kernel.type(Bench.packed("http://a"));
        kernel.open();
        kernel.answer(0);
        for (int i = 4; i < 512; i++) {
            Bench.same("call " + i, kernel.navigate(0, 0), 0);
        }
        Bench.same("the last call", kernel.about(0, 9), 200);
        TabKernel typed = new TabKernel(40);
        for (int i = 1; i <= 512; i++) {
            Bench.same("word " + i, typed.type(Bench.packed("12345678")), i <= 20 ? 8 * i : -1);
        }
        TabKernel fetching = new TabKernel(40);
        fetching.type(Bench.packed("http://a"));
        fetching.open();
        fetching.answer(0);
        for (int i = 4; i <= 512; i++) {
            Bench.same("call " + i, fetching.fetch(0, 2, true), i < 28 ? i - 4 : -1);
        }
    }
}
