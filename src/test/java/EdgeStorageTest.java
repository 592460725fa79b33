/** The edges of promises 18 (store) and 19 (stored), sentence by sentence. */
public final class EdgeStorageTest {
    public static void main(String[] args) {
        keys();
        keysBesideOthers();
        values();
        notCommitted();
        eightOrigins();
        nothingTakesNoRoom();
        staysForGood();
        Bench.end();
    }

    private static Bench at(String address) {
        Bench b = new Bench();
        b.committed(address);
        b.clear();
        return b;
    }

    private static final int[] NO_KEYS = {-1, -2, -8, 8, 9, 15, 16, 64, 256, 65536, Integer.MIN_VALUE, Integer.MAX_VALUE};

    /** "a key 0 .. 7"; "false if ... there is no such key"; "0 without" */
    private static void keys() {
        Bench b = at("http://a/");
        for (int key = 0; key < 8; key++) {
            Bench.same("without", b.stored(0, key), 0);
        }
        for (int key = 0; key < 8; key++) {
            Bench.same("key " + key, b.store(0, key, 10 + key), true);
        }
        for (int none : NO_KEYS) {
            b.refuses("key " + none, false, "", c -> c.store(0, none, 99));
            b.refuses("key " + none, 0, "", c -> c.stored(0, none));
        }
        for (int key = 0; key < 8; key++) {
            Bench.same("key " + key, b.stored(0, key), 10 + key);
        }
        Bench.same("no message", b.messages(), "");
    }

    /** Keys that are none reach no other origin's. */
    private static void keysBesideOthers() {
        Bench b = at("http://a/");
        b.committed("http://b/");
        b.committed("http://c/");
        for (int f = 0; f < 3; f++) {
            for (int key = 0; key < 8; key++) {
                b.store(f, key, 100 * f + key + 1);
            }
        }
        for (int none : NO_KEYS) {
            for (int f = 0; f < 3; f++) {
                int any = f;
                b.refuses("key " + none + " of " + f, false, "", c -> c.store(any, none, -9));
                Bench.same("key " + none + " of " + f, b.stored(f, none), 0);
            }
        }
        for (int f = 0; f < 3; f++) {
            for (int key = 0; key < 8; key++) {
                Bench.same("its own", b.stored(f, key), 100 * f + key + 1);
            }
        }
    }

    private static void values() {
        Bench b = at("http://a/");
        for (int value : new int[] {1, -1, Integer.MAX_VALUE, Integer.MIN_VALUE, 0, 65536}) {
            Bench.same("put", b.store(0, 3, value), true);
            Bench.same("there", b.stored(0, 3), value);
        }
    }

    /** "false if it is not committed" */
    private static void notCommitted() {
        Bench b = new Bench();
        b.open("http://a/");
        b.refuses("not committed", false, "", c -> c.store(0, 0, 5));
        b.refuses("not committed", 0, "", c -> c.stored(0, 0));
        b.answer(0);
        Bench.same("committed", b.store(0, 0, 5), true);
        b.child(0, "x");
        b.refuses("a child not committed", false, "", c -> c.store(1, 0, 6));
        b.refuses("a child not committed", 0, "", c -> c.stored(1, 0));
        b.enter("http://b/");
        Bench.same("committed, and another under way", b.stored(0, 0), 5);
        b.store(0, 0, 7);
        b.answer(b.about(0, 4));
        Bench.same("another's", b.stored(0, 0), 0);
        b.go(0, "http://a/");
        Bench.same("put where it was committed", b.stored(0, 0), 7);
    }

    private static Bench full() {
        Bench b = at("http://h1/");
        for (int i = 1; i <= 8; i++) {
            b.go(0, "http://h" + i);
            Bench.same("origin " + i, b.store(0, i - 1, i), true);
        }
        b.clear();
        return b;
    }

    /** "or there is no room: storage is kept for at most 8 origins" */
    private static void eightOrigins() {
        Bench b = full();
        for (String ninth : new String[] {"http://h9/", "https://h1/", "http://h1:81/", "http://h8.h8/"}) {
            Bench other = b.copy();
            other.go(0, ninth);
            for (int key = 0; key < 8; key++) {
                int any = key;
                other.refuses("a ninth", false, "", c -> c.store(0, any, 9));
                other.refuses("without", 0, "", c -> c.stored(0, any));
            }
        }
        for (int i = 1; i <= 8; i++) {
            b.go(0, "http://h" + i + ":80/x");
            Bench.same("there", b.stored(0, i - 1), i);
            Bench.same("one of the eight", b.store(0, 8 - i, -i), true);
            Bench.same("there", b.stored(0, 8 - i), -i);
        }
    }

    /** What puts nothing takes no room; a 0 does. */
    private static void nothingTakesNoRoom() {
        Bench b = at("http://g1/");
        for (int i = 1; i <= 4; i++) {
            b.go(0, "http://g" + i);
            b.store(0, 8, 1);
            b.store(0, -1, 1);
            b.stored(0, 0);
        }
        for (int i = 1; i <= 7; i++) {
            b.go(0, "http://h" + i);
            b.store(0, 0, i);
            b.store(0, 1, i);
        }
        Bench zero = b.copy();
        zero.go(0, "http://h8");
        Bench.same("a 0 is put", zero.store(0, 0, 0), true);
        zero.go(0, "http://h9");
        Bench.same("no room", zero.store(0, 0, 1), false);
        b.go(0, "http://h9");
        Bench.same("room for one", b.store(0, 0, 1), true);
    }

    /** "(it stays for good)" */
    private static void staysForGood() {
        Bench b = full();
        b.close(0);
        b.pass(1_000_000_000);
        b.clear();
        b.committed("http://h1/");
        Bench.same("there", b.stored(0, 0), 1);
        b.go(0, "http://h9/");
        Bench.same("no room still", b.store(0, 0, 9), false);
        b.go(0, "http://h8/");
        Bench.same("there", b.stored(0, 7), 8);
    }
}
