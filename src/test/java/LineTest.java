/** Promise 1 (a new object), 2 (type), 3 (suffix), 4 (pass). */
public final class LineTest {
    public static void main(String[] args) {
        newObject();
        quota();
        typing();
        lineIsTaken();
        suffixes();
        passing();
        Bench.end();
    }

    private static void newObject() {
        Bench b = new Bench();
        for (int what = 0; what <= 7; what++) {
            Bench.same("about(0, " + what + ")", b.about(0, what), -1);
        }
        for (int what = 8; what <= 10; what++) {
            Bench.same("about(0, " + what + ")", b.about(0, what), 0);
        }
        Bench.same("line", b.lineLength(), 0);
        Bench.same("time", b.pass(0), 0);
        Bench.same("shown", b.shown(0), -1);
        Bench.same("bar", b.barText(), "");
    }

    private static void quota() {
        Bench.same("quota -5 counts as 1", cookiesKept(-5), 1);
        Bench.same("quota 0 counts as 1", cookiesKept(0), 1);
        Bench.same("quota 1", cookiesKept(1), 1);
        Bench.same("quota 3", cookiesKept(3), 3);
        Bench.same("quota 40", cookiesKept(40), 40);
        Bench.same("quota 41 counts as 40", cookiesKept(41), 40);
        Bench.same("least int", cookiesKept(Integer.MIN_VALUE), 1);
        Bench.same("greatest int", cookiesKept(Integer.MAX_VALUE), 40);
    }

    private static int cookiesKept(int quota) {
        Bench b = new Bench(quota);
        int top = b.committed("http://a.com");
        for (int i = 0; i < 45; i++) {
            b.cookie(top, "n" + i + "=");
        }
        return b.about(0, 8);
    }

    private static void typing() {
        Bench b = new Bench();
        Bench.same("eight", b.type(Bench.packed("abcdefgh")), 8);
        Bench.same("none", b.type(0), 8);
        Bench.same("zeros between", b.type(0x6100000062000063L), 11);
        Bench.same("least and greatest", b.type(0x207EL), 13);
        Bench.same("31", b.type(0x611FL), -1);
        Bench.same("127", b.type(0x7F61L), -1);
        Bench.same("255", b.type(0xFF00000000000061L), -1);
        Bench.same("none came", b.type(0), 13);
        Bench order = new Bench();
        int top = order.committed("http://a");
        order.type(0x0061003D62000000L);
        order.cookie(top);
        Bench.same("highest byte first", order.cookiesOf(top), "a=b");
        Bench full = new Bench();
        for (int i = 1; i <= 19; i++) {
            Bench.same("up to 152", full.type(Bench.packed("xxxxxxxx")), 8 * i);
        }
        Bench.same("159", full.type(Bench.packed("xxxxxxx")), 159);
        Bench.same("161 would be", full.type(Bench.packed("xx")), -1);
        Bench.same("still 159", full.type(0), 159);
        Bench.same("160", full.type(0x7800000000000000L), 160);
        Bench.same("full", full.type(0x78L), -1);
        Bench.same("full, none typed", full.type(0), 160);
    }

    private static void lineIsTaken() {
        Bench b = new Bench();
        Bench.same("no suffix", b.suffix("!"), -1);
        Bench.same("taken by suffix", b.lineLength(), 0);
        b.open("!");
        Bench.same("taken by open", b.lineLength(), 0);
        b.enter("!");
        Bench.same("taken by enter", b.lineLength(), 0);
        int top = b.committed("http://a.com/");
        b.child(top, "!");
        Bench.same("taken by child", b.lineLength(), 0);
        b.navigate(top, top, "!");
        Bench.same("taken by navigate", b.lineLength(), 0);
        b.fetch(top, 9, true, "x");
        Bench.same("taken by fetch", b.lineLength(), 0);
        int r = b.fetch(top, 0, true, "x");
        b.set(r, "x");
        Bench.same("taken by set", b.lineLength(), 0);
        b.leave(r, true, "x");
        Bench.same("taken by leave", b.lineLength(), 0);
        b.lead(r, "x");
        Bench.same("taken by lead", b.lineLength(), 0);
        b.answer(r, "x");
        Bench.same("taken by answer", b.lineLength(), 0);
        b.cookie(top, "x");
        Bench.same("taken by cookie", b.lineLength(), 0);
        b.post(top, top, 1, "x");
        Bench.same("taken by post", b.lineLength(), 0);
        b.line("kept");
        b.cookies(top);
        b.store(top, 0, 1);
        b.stored(top, 0);
        b.bar();
        b.clear();
        b.pass(1);
        b.focus(0);
        b.close(0);
        Bench.same("not taken by the others", b.lineLength(), 4);
    }

    private static void suffixes() {
        Bench b = new Bench();
        Bench.same("empty", b.suffix(""), -1);
        Bench.same("first", b.suffix("co.uk"), 1);
        Bench.same("is there", b.suffix("co.uk"), -1);
        Bench.same("is there, great letters", b.suffix("CO.uK"), -1);
        Bench.same("one label", b.suffix("Com"), 2);
        Bench.same("is there in small letters", b.suffix("com"), -1);
        for (String none : new String[] {".uk", "uk.", "a..b", ".", "a_b", "a b", " a", "a/", "a:1", "http://a",
            "abcdefghijklm", "a.b.c.d.e.f.g", "a.b.c.d.e.f."}) {
            Bench.same("no host " + none, b.suffix(none), -1);
        }
        Bench.same("labels of 12", b.suffix("abcdefghijkl.ab-defghi-09"), 3);
        Bench.same("six labels", b.suffix("a.b.c.d.e.f"), 4);
        Bench.same("a hyphen", b.suffix("-"), 5);
        Bench.same("digits", b.suffix("0.9"), 6);
        Bench.same("a to z", b.suffix("az"), 7);
        Bench.same("eighth", b.suffix("h8"), 8);
        Bench.same("ninth", b.suffix("h9"), -1);
        Bench.same("about", b.about(-7, 10), 8);
    }

    private static void passing() {
        Bench b = new Bench();
        Bench.same("5", b.pass(5), 5);
        Bench.same("7 more", b.pass(7), 12);
        Bench.same("below 0", b.pass(-1), -1);
        Bench.same("least int", b.pass(Integer.MIN_VALUE), -1);
        Bench.same("greatest int", b.pass(Integer.MAX_VALUE), -1);
        Bench.same("too much by 1", b.pass(999999989), -1);
        Bench.same("nothing changed", b.pass(0), 12);
        Bench.same("the most", b.pass(999999988), 1000000000);
        Bench.same("no more", b.pass(1), -1);
        Bench.same("at the end", b.pass(0), 1000000000);
    }
}
