/** The edges of MESSAGES and of promises 20 (post) and 22 to 26 (about, message, letter, clear, shown), sentence by sentence. */
public final class EdgeMessageTest {
    public static void main(String[] args) {
        postNotCommitted();
        postToTheMeant();
        postToNobody();
        dataInDecimal();
        twoHundredMessages();
        behindTwoHundred();
        twoAtOnce();
        twoHundredCharacters();
        kindsAndNumbers();
        aboutTabs();
        aboutFrames();
        aboutRequests();
        aboutTheRest();
        messageNumbers();
        letters();
        clearing();
        shownNone();
        shownLatest();
        lookingChangesNothing();
        Bench.end();
    }

    private static final int[] WRONG = {-1, -2, 24, 25, 200, 201, 256, 65536, Integer.MIN_VALUE, Integer.MAX_VALUE};

    private static Bench at(String address) {
        Bench b = new Bench();
        b.committed(address);
        b.clear();
        return b;
    }

    /** "message 5 and true, if both are committed ...; else false" */
    private static void postNotCommitted() {
        Bench b = at("http://a/");
        b.child(0, "");
        b.clear();
        for (String text : new String[] {"*", "/", "http://a/", ""}) {
            b.refuses("from one not committed", false, "", c -> c.post(1, 0, 1, text));
            b.refuses("to one not committed", false, "", c -> c.post(0, 1, 1, text));
            b.refuses("both not committed", false, "", c -> c.post(1, 1, 1, text));
        }
        b.answer(0);
        b.clear();
        Bench.same("both committed", b.post(1, 0, 1, "*"), true);
        Bench.same("both committed", b.post(0, 1, 2, "/"), true);
        Bench.same("messages", b.messages(), "5 0 1 1|5 1 0 2");
    }

    /** "for * , / (its own origin), or the origin of an ADDRESS" */
    private static void postToTheMeant() {
        Bench b = at("http://a/x");
        b.committed("https://b:81/y");
        b.committed("http://a:80/z");
        b.clear();
        for (String meant : new String[] {"*", "https://b:81", "HTTPS://B:81/other?q#r"}) {
            Bench.same("to b for " + meant, b.post(0, 1, 7, meant), true);
            Bench.same("message 5", b.messages(), "5 1 0 7");
        }
        for (String meant : new String[] {"*", "/", "http://a", "http://a:80/x"}) {
            Bench.same("to a for " + meant, b.post(0, 2, 7, meant), true);
            Bench.same("message 5", b.messages(), "5 2 0 7");
            Bench.same("to itself for " + meant, b.post(2, 2, 7, meant), true);
            Bench.same("message 5", b.messages(), "5 2 2 7");
        }
    }

    /** "and g's origin is meant; else false" */
    private static void postToNobody() {
        Bench b = at("http://a/x");
        b.committed("https://b:81/y");
        b.clear();
        for (String nobody : new String[] {"", "/", " ", "**", "* ", "/ ", "//", "//b:81", "/y", "y", "b:81", "https://b", "http://b:81", "https://b:82",
            "https://b.b:81", "http://a/", "https://b:81/ ", "https://b:81/" + "p".repeat(48), "https://b:65536"}) {
            b.refuses("for <" + nobody + ">", false, "", c -> c.post(0, 1, 7, nobody));
        }
        Bench.same("60 characters", b.post(0, 1, 7, "https://b:81/" + "p".repeat(47)), true);
    }

    /** "its data in decimal" */
    private static void dataInDecimal() {
        Bench b = at("http://a/");
        for (int data : new int[] {0, 1, -1, 9, 10, -10, 1000000000, Integer.MAX_VALUE, Integer.MIN_VALUE, Integer.MIN_VALUE + 1}) {
            Bench.same("post", b.post(0, 0, data, "*"), true);
            Bench.same("data", b.messages(), "5 0 0 " + data);
        }
    }

    private static Bench noted(int count) {
        Bench b = at("http://a/");
        b.navigate(0, 0, "n");
        b.fetch(0, 1, true, "http://b/");
        b.clear();
        for (int i = 0; i < count; i++) {
            b.post(0, 0, i, "*");
        }
        Bench.same("noted", b.messageCount(), count);
        return b;
    }

    /** "MESSAGES of the kernel are noted, at most 200 between two calls of clear()" */
    private static void twoHundredMessages() {
        Bench b = noted(199);
        Bench.same("no 200th yet", b.message(199, 0), -1);
        Bench.same("the 200th", b.post(0, 0, 777, "*"), true);
        Bench.same("200", b.messageCount(), 200);
        Bench.same("the last", b.messageText(199), "777");
        Bench.same("a 201st", b.post(0, 0, 888, "*"), true);
        Bench.same("200 still", b.messageCount(), 200);
        Bench.same("the first", b.messageText(0), "0");
        Bench.same("the last", b.messageText(199), "777");
        Bench.same("none behind it", b.message(200, 0), -1);
        Bench.same("none behind it", b.letter(200, 0), -1);
        b.clear();
        Bench.same("none", b.messageCount(), 0);
        b.post(0, 0, 5, "*");
        Bench.same("noted again", b.messages(), "5 0 0 5");
    }

    /** "(what comes behind these is not)": the calls do what they do all the same. */
    private static void behindTwoHundred() {
        Bench b = noted(200);
        Bench.same("refused", b.child(0, ":"), -1);
        Bench.same("child", b.child(0, "x"), 1);
        Bench.same("open", b.open("http://c/"), 1);
        Bench.same("enter", b.enter("http://d/"), 3);
        Bench.same("led on", b.lead(1, "y"), true);
        Bench.same("not led on", b.lead(1, ":"), false);
        b.answer(0, "t");
        Bench.same("committed", b.about(1, 1), -1);
        Bench.same("200 still", b.messageCount(), 200);
        Bench.same("the last", b.message(199, 0) * 1000 + b.letter(199, 2), 5000 + '9');
        b.clear();
        b.focus(0);
        Bench.same("committed there", b.barText(), "http://a/n");
    }

    /** Of two messages of one call the first alone may have room. */
    private static void twoAtOnce() {
        Bench b = noted(199);
        b.answer(0, "t");
        Bench.same("200", b.messageCount(), 200);
        Bench.same("message 2 is the last", b.message(199, 0), 2);
        Bench.same("its text", b.messageText(199), "http://a/n");
        Bench fits = noted(198);
        fits.answer(0, "t");
        Bench.same("200", fits.messageCount(), 200);
        Bench.same("message 2", fits.message(198, 0), 2);
        Bench.same("message 3 is the last", fits.message(199, 0), 3);
        Bench.same("its text", fits.messageText(199), "t");
    }

    /** A message 1 whose whole text has so many characters. */
    private static void textOf(int length) {
        Bench b = at("http://a.com/");
        for (int i = 0; i < 8; i++) {
            b.cookie(0, "cookie" + i + "=12345678901");
        }
        b.cookie(0, "y=" + "y".repeat(length - 189));
        b.cookie(0, "z=Z");
        String whole = "http://a.com/ " + b.cookiesOf(0);
        Bench.same("so long", whole.length(), length);
        int most = Math.min(200, length);
        b.fetch(0, 0, true, "");
        Bench.same("length", b.message(0, 3), most);
        Bench.same("text", b.messageText(0), whole.substring(0, most));
        Bench.same("last", b.letter(0, most - 1), (int) whole.charAt(most - 1));
        Bench.same("behind it", b.letter(0, most), -1);
    }

    /** "the text of it (its first 200 characters)" */
    private static void twoHundredCharacters() {
        for (int length = 198; length <= 201; length++) {
            textOf(length);
        }
        Bench b = at("http://a.com/");
        for (int i = 10; i < 50; i++) {
            b.cookie(0, "nameof7890" + i + "=" + "valueof90" + i);
        }
        b.clear();
        b.enter("http://a.com/" + "p".repeat(47));
        Bench.same("far beyond", b.message(0, 3), 200);
        b.answer(0, "x".repeat(160));
        Bench.same("an address of 60", b.message(1, 3), 60);
        Bench.same("a body of 160", b.message(2, 3), 160);
    }

    /** "each a kind, two numbers, and the text of it" */
    private static void kindsAndNumbers() {
        Bench b = new Bench();
        b.committed("http://z/");
        b.open("http://a/");
        b.lead(0, "x");
        b.answer(0, "body");
        b.child(1, "y");
        b.fetch(1, 2, true, "http://b/");
        b.answer(1, "unseen");
        b.post(1, 0, -5, "*");
        b.child(2, "");
        b.child(1, ":");
        Bench.same("all kinds", b.messages(), "1 0 0 http://z/|2 0 0 http://z/|3 0 0 |1 0 1 http://a/|1 0 1 http://a/x|2 1 1 http://a/x|3 1 0 body"
                + "|1 0 2 http://a/y|1 1 1 http://b/|4 1 1 |5 0 1 -5|6 2 2 |6 1 1 ");
    }

    /** "A tab's TOP, or NONE if there is no such tab (what = 0)" */
    private static void aboutTabs() {
        Bench b = new Bench();
        for (int i = 0; i < 4; i++) {
            Bench.same("not yet", b.about(i, 0), -1);
            b.open("http://a/");
            Bench.same("top", b.about(i, 0), i);
        }
        for (int none : WRONG) {
            Bench.same("tab " + none, b.about(none, 0), -1);
        }
        Bench.same("tab 4", b.about(4, 0), -1);
        b.close(2);
        Bench.same("gone", b.about(2, 0), -1);
        Bench.same("there", b.about(3, 0), 3);
        Bench other = at("http://a/");
        other.child(0, "x");
        other.open("http://b/");
        Bench.same("a top that is no tab's number", other.about(1, 0), 2);
    }

    /** "of frame k: its tab (1), parent (2), 1 if it is committed, else 0 (3), its NAVIGATION under way (4)" */
    private static void aboutFrames() {
        Bench b = at("http://a/");
        for (int i = 1; i < 15; i++) {
            b.committedChild(0, "x");
        }
        b.open("http://b/");
        int[][] due = {{0, -1, 1, -1}, {0, 0, 1, -1}, {1, -1, 0, 0}};
        for (int what = 1; what <= 4; what++) {
            Bench.same("frame 0, " + what, b.about(0, what), due[0][what - 1]);
            Bench.same("frame 14, " + what, b.about(14, what), due[1][what - 1]);
            Bench.same("frame 15, " + what, b.about(15, what), due[2][what - 1]);
            Bench.same("frame 16, " + what, b.about(16, what), -1);
            for (int none : WRONG) {
                Bench.same("frame " + none, b.about(none, what), -1);
            }
        }
        b.close(1);
        for (int what = 1; what <= 4; what++) {
            Bench.same("gone", b.about(15, what), -1);
        }
        b.navigate(0, 14, "y");
        b.fetch(14, 0, true, "");
        Bench.same("under way", b.about(14, 4), 0);
        Bench.same("a fetch is none", b.about(0, 4), -1);
        b.answer(0);
        Bench.same("over", b.about(14, 4), -1);
    }

    /** "of request k: its frame (5), 0 for NAVIGATION, 1 for FETCH (6)" */
    private static void aboutRequests() {
        Bench b = at("http://a/");
        for (int i = 0; i < 23; i++) {
            b.fetch(0, i % 3, i % 2 == 0, "");
        }
        b.child(0, "x");
        Bench.same("frame of 0", b.about(0, 5), 0);
        Bench.same("kind of 0", b.about(0, 6), 1);
        Bench.same("frame of 22", b.about(22, 5), 0);
        Bench.same("kind of 22", b.about(22, 6), 1);
        Bench.same("frame of 23", b.about(23, 5), 1);
        Bench.same("kind of 23", b.about(23, 6), 0);
        for (int none : WRONG) {
            Bench.same("request " + none, b.about(none, 5), -1);
            Bench.same("request " + none, b.about(none, 6), -1);
        }
        b.answer(23);
        Bench.same("over", b.about(23, 5), -1);
        Bench.same("over", b.about(23, 6), -1);
    }

    /** "the FOCUSED tab (7), cookies that are not over (8), messages (9), suffixes (10) whatever k is"; "or for another what" */
    private static void aboutTheRest() {
        Bench b = at("http://a/");
        b.open("http://b/");
        b.suffix("c");
        b.suffix("d");
        b.suffix("e");
        b.cookie(0, "n=1");
        b.cookie(0, "m=1; max-age=5");
        b.cookie(0, "l=1");
        b.cookie(0, "k=1");
        int[] all = {-1, 0, 1, 4, 16, 24, 256, Integer.MIN_VALUE, Integer.MAX_VALUE};
        for (int k : all) {
            Bench.same("focused", b.about(k, 7), 1);
            Bench.same("cookies", b.about(k, 8), 4);
            Bench.same("messages", b.about(k, 9), 1);
            Bench.same("suffixes", b.about(k, 10), 3);
            for (int what : new int[] {-1, -2, 11, 12, 16, 256, 263, 65536, Integer.MIN_VALUE, Integer.MAX_VALUE}) {
                Bench.same("another what", b.about(k, what), -1);
            }
        }
        b.pass(4);
        Bench.same("not over", b.cookieCount(), 4);
        b.pass(1);
        Bench.same("over", b.cookieCount(), 3);
        b.close(1);
        Bench.same("none focused", b.about(0, 7), -1);
    }

    /** "Message k: its kind (0), first (1), second number (2), its text's length (3). NONE if there is none such, or for another what." */
    private static void messageNumbers() {
        Bench b = at("http://a/");
        b.committed("http://b/c");
        int[][] due = {{1, 0, 1, 10}, {2, 1, 1, 10}, {3, 1, 0, 0}};
        for (int k = 0; k < 3; k++) {
            for (int what = 0; what < 4; what++) {
                Bench.same("message " + k + ", " + what, b.message(k, what), due[k][what]);
            }
            for (int what : new int[] {-1, 4, 5, 256, Integer.MIN_VALUE, Integer.MAX_VALUE}) {
                Bench.same("another what", b.message(k, what), -1);
            }
        }
        for (int what = -1; what <= 4; what++) {
            Bench.same("behind the last", b.message(3, what), -1);
            for (int none : WRONG) {
                Bench.same("message " + none, b.message(none, what), -1);
            }
        }
    }

    /** "Character j of message k's text; NONE if there is none." */
    private static void letters() {
        Bench b = at("http://a/");
        b.committed("http://b/c");
        Bench.same("first", b.letter(0, 0), (int) 'h');
        Bench.same("last", b.letter(0, 9), (int) 'c');
        Bench.same("behind it", b.letter(0, 10), -1);
        Bench.same("of an empty text", b.letter(2, 0), -1);
        for (int none : WRONG) {
            Bench.same("character " + none, b.letter(0, none), -1);
            Bench.same("message " + none, b.letter(none, 0), -1);
            Bench.same("neither", b.letter(none, none), -1);
        }
        Bench.same("behind the last", b.letter(3, 0), -1);
    }

    /** "No messages are noted any more." */
    private static void clearing() {
        Bench b = new Bench();
        b.clear();
        Bench.same("none", b.messageCount(), 0);
        b.committed("http://a/");
        b.bar();
        String before = b.state();
        b.clear();
        Bench.same("none", b.messageCount(), 0);
        for (int k = -1; k <= 3; k++) {
            Bench.same("none", b.message(k, 0), -1);
            Bench.same("none", b.message(k, 3), -1);
            Bench.same("none", b.letter(k, 0), -1);
        }
        Bench.same("all else stays", b.state(), before);
        b.clear();
        Bench.same("none", b.messageCount(), 0);
        b.post(0, 0, 1, "*");
        Bench.same("from the first on", b.message(0, 0), 5);
        Bench.same("one", b.messageCount(), 1);
    }

    /** "Character k of what was shown latest; NONE if there is none." */
    private static void shownNone() {
        Bench b = new Bench();
        Bench.same("nothing yet", b.shown(0), -1);
        b.committed("http://a/b");
        Bench.same("nothing yet", b.shown(0), -1);
        b.bar();
        Bench.same("first", b.shown(0), (int) 'h');
        Bench.same("last", b.shown(9), (int) 'b');
        Bench.same("behind it", b.shown(10), -1);
        for (int none : WRONG) {
            Bench.same("character " + none, b.shown(none), -1);
        }
        b.cookies(0);
        Bench.same("an empty text", b.shown(0), -1);
    }

    private static void shownLatest() {
        Bench b = at("http://a/b");
        b.cookie(0, "n=1");
        b.bar();
        b.cookies(0);
        Bench.same("cookies", b.shown(), "n=1");
        b.bar();
        Bench.same("bar", b.shown(), "http://a/b");
        b.cookies(0);
        b.cookie(0, "n=2");
        b.go(0, "http://c/");
        b.close(0);
        Bench.same("as it was shown", b.shown(), "n=1");
        b.throwsOn("cookies of no frame", "kept", 4, c -> c.cookies(0));
        b.bar();
        Bench.same("nothing", b.shown(0), -1);
    }

    private static TabKernel looked(boolean looking) {
        TabKernel kernel = new TabKernel(40);
        Bench.type(kernel, "http://a");
        kernel.open();
        kernel.answer(0);
        Bench.type(kernel, "n=1");
        kernel.cookie(0);
        kernel.store(0, 0, 5);
        kernel.child(0);
        kernel.cookies(0);
        Bench.type(kernel, "x");
        for (int what = -1; looking && what <= 11; what++) {
            for (int k = -1; k <= 2; k++) {
                kernel.about(k, what);
                kernel.message(k, what);
                kernel.letter(k, what);
            }
            kernel.shown(what);
            kernel.stored(0, what);
        }
        return kernel;
    }

    /** about, message, letter, shown and stored tell, and change nothing. */
    private static void lookingChangesNothing() {
        TabKernel one = looked(true);
        TabKernel two = looked(false);
        for (int what = 0; what <= 10; what++) {
            Bench.same("about 0", one.about(0, what), two.about(0, what));
            Bench.same("about 1", one.about(1, what), two.about(1, what));
            Bench.same("letter", one.letter(2, what), two.letter(2, what));
            Bench.same("message", one.message(what, 0), two.message(what, 0));
            Bench.same("shown", one.shown(what), two.shown(what));
            Bench.same("stored", one.stored(0, what), two.stored(0, what));
        }
        Bench.same("the line", one.type(0), two.type(0));
        Bench.same("the next request", one.fetch(0, 0, true), two.fetch(0, 0, true));
        Bench.same("its cookies", one.message(4, 3), 14);
        Bench b = at("http://a/");
        b.cookie(0, "n=1");
        b.bar();
        b.refuses("the bar again", 9, "", c -> c.bar());
        b.cookies(0);
        b.refuses("cookies again", 3, "", c -> c.cookies(0));
    }
}
