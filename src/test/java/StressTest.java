import java.util.Random;

/** Many calls with any arguments: none throws what the document does not name, and the state stays whole. */
public final class StressTest {
    private static final String[] TEXTS = {"", "*", "/", "http://a.com", "https://a.com/x/y", "http://b.a.com:81/../z?q",
        "//co.uk", "../w", "./", "?q=1", "#r", ":", "a b", "n=1", "m=2; domain=a.com; path=/x", "o=3; secure", "p=4; httponly",
        "q=5; max-age=2", "n=6; max-age=0", "co.uk", "com", "http://a.co.uk/.././", "r=7; domain=.co.uk;;=;", " = ; ="};
    private static final int[] NUMBERS = {Integer.MIN_VALUE, -1, 16, 24, 200, Integer.MAX_VALUE};

    private final Random random;
    private final Bench bench;

    private StressTest(long seed) {
        random = new Random(seed);
        bench = new Bench(random.nextInt(45) - 2);
    }

    public static void main(String[] args) {
        for (long seed = 0; seed < 5000; seed++) {
            StressTest run = new StressTest(seed);
            for (int i = 0; i < 120; i++) {
                run.turn(seed);
            }
            run.whole(seed);
        }
        Bench.end();
    }

    private void turn(long seed) {
        if (random.nextInt(10) < 7) {
            bench.line(TEXTS[random.nextInt(TEXTS.length)]);
        } else {
            bench.type(random.nextLong());
        }
        int call = random.nextInt(25);
        try {
            long answer = call(call, number(4), number(6), random.nextBoolean());
            if (answer < -1) {
                Bench.same("call " + call + " of seed " + seed, answer, "not below -1");
            }
        } catch (IndexOutOfBoundsException e) {
            if (call >= 15 || !e.getClass().equals(IndexOutOfBoundsException.class)) {
                Bench.same("call " + call + " of seed " + seed, e.toString(), "nothing thrown");
            }
        } catch (RuntimeException e) {
            Bench.same("call " + call + " of seed " + seed, e.toString(), "nothing of this kind thrown");
        }
    }

    private int number(int usual) {
        return random.nextInt(20) == 0 ? NUMBERS[random.nextInt(NUMBERS.length)] : random.nextInt(usual);
    }

    private long call(int call, int a, int b, boolean with) {
        Bench k = bench;
        switch (call) {
            case 0: if (with) k.close(a); return 0;
            case 1: k.focus(a); return 0;
            case 2: return k.child(b);
            case 3: return k.navigate(a, b);
            case 4: return k.fetch(a, b % 4, with);
            case 5: case 6: k.answer(b); return 0;
            case 7: k.set(b); return 0;
            case 8: k.leave(b, with); return 0;
            case 9: return k.lead(b) ? 1 : 0;
            case 10: return k.cookies(a);
            case 11: return k.cookie(a) ? 1 : 0;
            case 12: return k.store(a, b, 5) ? 1 : 0;
            case 13: return k.stored(a, b);
            case 14: return k.post(a, b, a) ? 1 : 0;
            case 15: case 16: return k.open();
            case 17: return k.enter();
            case 18: return k.suffix();
            case 19: return k.pass(a);
            case 20: return k.bar();
            case 21: return k.about(a, b);
            case 22: return k.message(a, b);
            case 23: return Math.min(k.letter(a, b), k.shown(b));
            default: if (random.nextInt(9) == 0) k.clear(); return 0;
        }
    }

    /** Frames have tabs and parents that are there, and requests have frames. */
    private void whole(long seed) {
        Bench k = bench;
        boolean good = true;
        for (int f = 0; f < 16; f++) {
            int tab = k.about(f, 1);
            int parent = k.about(f, 2);
            if (tab != TabKernel.NONE) {
                good &= parent == TabKernel.NONE ? k.about(tab, 0) == f : k.about(parent, 1) == tab && k.about(parent, 3) == 1;
                good &= k.about(f, 4) == TabKernel.NONE || k.about(k.about(f, 4), 5) == f;
            }
        }
        for (int r = 0; r < 24; r++) {
            good &= k.about(r, 5) == TabKernel.NONE || k.about(k.about(r, 5), 1) != TabKernel.NONE;
        }
        good &= k.about(0, 7) == TabKernel.NONE || k.about(k.about(0, 7), 0) != TabKernel.NONE;
        good &= k.about(0, 8) <= 40 && k.about(0, 9) <= 200 && k.about(0, 10) <= 8;
        Bench.same("state is whole, seed " + seed, good, true);
    }
}
