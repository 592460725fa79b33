/** Promise 18 (store), 19 (stored). */
public final class StorageTest {
    public static void main(String[] args) {
        byOrigin();
        wrongKeys();
        notCommitted();
        eightOrigins();
        Bench.end();
    }

    private static void byOrigin() {
        Bench b = new Bench();
        b.committed("http://a.com/x");
        b.committed("http://b.com");
        b.committed("HTTP://A.com:80/y");
        Bench.same("nothing yet", b.stored(0, 3), 0);
        Bench.same("put", b.store(0, 3, -7), true);
        Bench.same("it is there", b.stored(0, 3), -7);
        Bench.same("of the same origin", b.stored(2, 3), -7);
        Bench.same("of another", b.stored(1, 3), 0);
        Bench.same("another key", b.stored(0, 2), 0);
        Bench.same("put", b.store(1, 3, Integer.MAX_VALUE), true);
        Bench.same("put", b.store(2, 3, Integer.MIN_VALUE), true);
        Bench.same("the last one", b.stored(0, 3), Integer.MIN_VALUE);
        Bench.same("its own", b.stored(1, 3), Integer.MAX_VALUE);
        for (String other : new String[] {"https://a.com", "http://a.com:81", "http://x.a.com", "http://com"}) {
            b.go(2, other);
            Bench.same(other, b.stored(2, 3), 0);
        }
        b.close(0);
        b.close(1);
        b.close(2);
        int again = b.committed("http://a.com");
        Bench.same("it stays for good", b.stored(again, 3), Integer.MIN_VALUE);
    }

    private static void wrongKeys() {
        Bench b = new Bench();
        b.committed("http://a.com");
        for (int key = 0; key < 8; key++) {
            Bench.same("key", b.store(0, key, key + 1), true);
        }
        for (int key : new int[] {-1, 8, Integer.MIN_VALUE, Integer.MAX_VALUE}) {
            Bench.same("no such key", b.store(0, key, 9), false);
            Bench.same("no such key", b.stored(0, key), 0);
        }
        for (int key = 0; key < 8; key++) {
            Bench.same("all as they were", b.stored(0, key), key + 1);
        }
    }

    private static void notCommitted() {
        Bench b = new Bench();
        b.open("http://a.com");
        Bench.same("not committed", b.store(0, 0, 5), false);
        Bench.same("not committed", b.stored(0, 0), 0);
        b.answer(0, "");
        Bench.same("nothing was put", b.stored(0, 0), 0);
        b.store(0, 0, 6);
        b.enter("http://b.com");
        Bench.same("while another is under way", b.stored(0, 0), 6);
    }

    private static void eightOrigins() {
        Bench b = new Bench();
        b.committed("http://h0");
        Bench.same("a wrong key takes no room", b.store(0, 8, 1), false);
        b.stored(0, 0);
        for (int i = 1; i <= 8; i++) {
            b.go(0, "http://h" + i);
            Bench.same("origin", b.store(0, 7, i), true);
        }
        b.go(0, "http://h9");
        Bench.same("no room", b.store(0, 7, 9), false);
        Bench.same("nothing there", b.stored(0, 7), 0);
        for (int i = 1; i <= 8; i++) {
            b.go(0, "http://h" + i + "/again");
            Bench.same("there", b.stored(0, 7), i);
            Bench.same("and more of it", b.store(0, 0, -i), true);
            Bench.same("there too", b.stored(0, 0), -i);
        }
    }
}
