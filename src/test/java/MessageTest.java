/** Promise 20 (post), 23 (message), 24 (letter), 25 (clear), 26 (shown). */
public final class MessageTest {
    public static void main(String[] args) {
        posting();
        postWhoIsMeant();
        postNotCommitted();
        readingMessages();
        longTexts();
        atMostTwoHundred();
        showing();
        Bench.end();
    }

    private static void posting() {
        Bench b = new Bench();
        b.committed("http://a.com");
        b.committed("http://b.com");
        b.messages();
        Bench.same("for *", b.post(0, 1, 42, "*"), true);
        Bench.same("to itself", b.post(1, 1, -7, "*"), true);
        Bench.same("least", b.post(1, 0, Integer.MIN_VALUE, "*"), true);
        Bench.same("greatest", b.post(0, 1, Integer.MAX_VALUE, "*"), true);
        Bench.same("zero", b.post(0, 1, 0, "*"), true);
        Bench.same("to, from, data", b.messages(), "5 1 0 42|5 1 1 -7|5 0 1 -2147483648|5 1 0 2147483647|5 1 0 0");
    }

    private static void postWhoIsMeant() {
        Bench b = new Bench();
        b.committed("http://a.com/x");
        b.committed("https://b.com/y");
        b.committed("http://a.com:80/z");
        b.messages();
        for (String meant : new String[] {"https://b.com", "HTTPS://B.COM:443/p?q#r"}) {
            Bench.same(meant, b.post(0, 1, 1, meant), true);
            Bench.same("message", b.messages(), "5 1 0 1");
        }
        for (String not : new String[] {"", "/", "http://b.com", "https://b.com:444", "https://x.b.com", "http://a.com", "b.com",
            "//b.com", " *", "**", "/y", "//", "null", "https://b.com/ "}) {
            Bench.same("not meant: " + not, b.post(0, 1, 1, not), false);
        }
        Bench.same("no message", b.messages(), "");
        Bench.same("own origin", b.post(0, 2, 1, "/"), true);
        Bench.same("own origin, itself", b.post(1, 1, 1, "/"), true);
        Bench.same("the origin of an address", b.post(1, 2, 1, "http://a.com/other"), true);
        Bench.same("messages", b.messages(), "5 2 0 1|5 1 1 1|5 2 1 1");
    }

    private static void postNotCommitted() {
        Bench b = new Bench();
        b.committed("http://a.com");
        b.open("http://a.com");
        b.messages();
        for (String any : new String[] {"*", "/", "http://a.com"}) {
            Bench.same("to one that is not committed", b.post(0, 1, 1, any), false);
            Bench.same("from one that is not committed", b.post(1, 0, 1, any), false);
        }
        Bench.same("no message", b.messages(), "");
    }

    private static void readingMessages() {
        Bench b = new Bench();
        Bench.same("none", b.message(0, 0), -1);
        Bench.same("none", b.letter(0, 0), -1);
        b.open("http://a.com");
        b.open("http://b.com");
        b.answer(1, "Hi ~!");
        Bench.same("four", b.about(0, 9), 4);
        Bench.same("kind", b.message(3, 0), 3);
        Bench.same("first", b.message(3, 1), 1);
        Bench.same("second", b.message(3, 2), 1);
        Bench.same("length", b.message(3, 3), 5);
        Bench.same("another what", b.message(3, 4), -1);
        Bench.same("another what", b.message(3, -1), -1);
        Bench.same("first letter", b.letter(3, 0), (int) 'H');
        Bench.same("last letter", b.letter(3, 4), (int) '!');
        Bench.same("behind it", b.letter(3, 5), -1);
        Bench.same("ahead of it", b.letter(3, -1), -1);
        Bench.same("far behind it", b.letter(3, Integer.MAX_VALUE), -1);
        for (int k : new int[] {-1, 4, 200, Integer.MIN_VALUE, Integer.MAX_VALUE}) {
            for (int what = 0; what < 4; what++) {
                Bench.same("none such", b.message(k, what), -1);
            }
            Bench.same("none such", b.letter(k, 0), -1);
        }
        b.clear();
        Bench.same("no messages", b.about(0, 9), 0);
        Bench.same("none such", b.message(0, 0), -1);
        Bench.same("none such", b.letter(0, 0), -1);
        b.answer(0, "");
        Bench.same("noted again", b.messages(), "2 0 0 http://a.com/|3 0 0 ");
    }

    private static void longTexts() {
        Bench b = new Bench();
        int top = b.committed("http://a.com");
        for (int i = 10; i < 22; i++) {
            b.cookie(top, "name5678" + i + "=val" + i);
        }
        b.messages();
        b.answer(b.fetch(top, 0, true, ""), "x".repeat(160));
        String all = " " + b.cookiesOf(top);
        String asked = "1 0 0 " + ("http://a.com/" + all).substring(0, 200);
        Bench.same("its first 200 characters", b.messages(), asked + "|3 0 0 " + "x".repeat(160));
        String sixty = "http://a.com/" + "p".repeat(47);
        b.go(top, sixty);
        asked = "1 0 0 " + (sixty + all).substring(0, 200);
        Bench.same("a long address", b.messages(), asked + "|2 0 0 " + sixty + "|3 0 0 ");
        for (int length = 199; length <= 201; length++) {
            exactly(length);
        }
        Bench most = new Bench();
        int f = most.committed("http://a.com");
        for (int i = 10; i < 50; i++) {
            most.cookie(f, "name567890" + i + "=value67890" + i);
        }
        Bench.same("all are shown", most.cookies(f), 40 * 27 - 2);
        Bench.same("the last one", most.shown(1077), (int) '9');
        Bench.same("none behind it", most.shown(1078), -1);
    }

    /** A message 1 whose whole text has that many characters, and a cookie z at its end. */
    private static void exactly(int length) {
        Bench b = new Bench();
        int top = b.committed("http://a.com");
        for (int i = 0; i < 8; i++) {
            b.cookie(top, "cookie" + i + "=12345678901");
        }
        b.cookie(top, "y=" + "y".repeat(length - 189));
        b.cookie(top, "z=z");
        b.messages();
        b.fetch(top, 0, true, "");
        String whole = "http://a.com/ " + b.cookiesOf(top);
        Bench.same("so long", whole.length(), length);
        Bench.same("at most 200", b.messages(), "1 0 0 " + whole.substring(0, Math.min(200, length)));
    }

    private static void atMostTwoHundred() {
        Bench b = new Bench();
        b.committed("http://a.com");
        b.clear();
        for (int i = 0; i < 205; i++) {
            Bench.same("true whether noted or not", b.post(0, 0, i, "*"), true);
        }
        Bench.same("200", b.about(0, 9), 200);
        Bench.same("the first", b.messageText(0), "0");
        Bench.same("the last", b.messageText(199), "199");
        Bench.same("none behind it", b.message(200, 0), -1);
        b.clear();
        b.post(0, 0, 7, "*");
        Bench.same("again", b.messages(), "5 0 0 7");
    }

    private static void showing() {
        Bench b = new Bench();
        Bench.same("nothing yet", b.shown(0), -1);
        b.committed("http://a.com");
        Bench.same("nothing yet", b.shown(0), -1);
        b.cookie(0, "n=1");
        b.bar();
        Bench.same("address", b.shown(), "http://a.com/");
        Bench.same("ahead of it", b.shown(-1), -1);
        Bench.same("last", b.shown(12), (int) '/');
        Bench.same("behind it", b.shown(13), -1);
        Bench.same("far behind it", b.shown(Integer.MAX_VALUE), -1);
        b.cookies(0);
        Bench.same("the latest", b.shown(), "n=1");
        b.cookie(0, "n=2");
        b.enter("http://b.com");
        Bench.same("as it was shown", b.shown(), "n=1");
        b.answer(0, "");
        b.cookies(0);
        Bench.same("empty", b.shown(0), -1);
    }
}
