/** A kernel that is spoken to in words, and a count of the answers that were not as due. */
final class Bench {
    private static final int MOST_PRINTED = 50;

    private static int asked;
    private static int wrong;

    final TabKernel kernel;

    Bench() {
        this(40);
    }

    Bench(int quota) {
        kernel = new TabKernel(quota);
    }

    static void same(String what, Object got, Object want) {
        asked++;
        if (!got.equals(want)) {
            wrong++;
        }
        if (!got.equals(want) && wrong <= MOST_PRINTED) {
            System.out.println(what + ": answered <" + got + ">, due is <" + want + ">");
        }
    }

    static void throwsIndex(String what, Runnable call) {
        same(what + " throws", thrownBy(call), "IndexOutOfBoundsException");
    }

    private static String thrownBy(Runnable call) {
        try {
            call.run();
            return "nothing";
        } catch (RuntimeException e) {
            return e.getClass().getSimpleName();
        }
    }

    /** To be called at the end of every test. */
    static void end() {
        System.out.println(asked + " answers, " + wrong + " not as due");
        if (wrong != 0 || asked == 0) {
            System.exit(1);
        }
    }

    static long packed(String upToEight) {
        long w = 0;
        for (char c : upToEight.toCharArray()) {
            w = w << 8 | c;
        }
        return w;
    }

    Bench line(String text) {
        for (int i = 0; i < text.length(); i += 8) {
            kernel.type(packed(text.substring(i, Math.min(text.length(), i + 8))));
        }
        return this;
    }

    int lineLength() {
        return kernel.type(0);
    }

    int suffix(String text) {
        return line(text).kernel.suffix();
    }

    int open(String text) {
        return line(text).kernel.open();
    }

    int enter(String text) {
        return line(text).kernel.enter();
    }

    int child(int f, String text) {
        return line(text).kernel.child(f);
    }

    int navigate(int f, int g, String text) {
        return line(text).kernel.navigate(f, g);
    }

    int fetch(int f, int mode, boolean with, String text) {
        return line(text).kernel.fetch(f, mode, with);
    }

    void answer(int r, String text) {
        line(text).kernel.answer(r);
    }

    void set(int r, String text) {
        line(text).kernel.set(r);
    }

    void leave(int r, boolean with, String text) {
        line(text).kernel.leave(r, with);
    }

    boolean lead(int r, String text) {
        return line(text).kernel.lead(r);
    }

    boolean cookie(int f, String text) {
        return line(text).kernel.cookie(f);
    }

    boolean post(int f, int g, int data, String text) {
        return line(text).kernel.post(f, g, data);
    }

    /** A new tab whose TOP is committed there: the TOP. */
    int committed(String address) {
        int tab = open(address);
        int top = kernel.about(tab, 0);
        kernel.answer(kernel.about(top, 4));
        return top;
    }

    /** A child of f that is committed there: its frame. */
    int committedChild(int f, String address) {
        int inner = child(f, address);
        kernel.answer(kernel.about(inner, 4));
        return inner;
    }

    /** Commits frame f anew. */
    void go(int f, String address) {
        kernel.answer(navigate(f, f, address));
    }

    String cookies(int f) {
        return told(kernel.cookies(f));
    }

    String bar() {
        return told(kernel.bar());
    }

    private String told(int length) {
        if (length == TabKernel.NONE) {
            return "none";
        }
        String text = shown();
        same("length of what is shown", length, text.length());
        return text;
    }

    String shown() {
        StringBuilder text = new StringBuilder();
        for (int c = kernel.shown(0); c != TabKernel.NONE; c = kernel.shown(text.length())) {
            text.append((char) c);
        }
        return text.toString();
    }

    String messageText(int k) {
        StringBuilder text = new StringBuilder();
        for (int c = kernel.letter(k, 0); c != TabKernel.NONE; c = kernel.letter(k, text.length())) {
            text.append((char) c);
        }
        same("length of a message", kernel.message(k, 3), text.length());
        return text.toString();
    }

    /** All messages, as "kind first second text" with | between; then none are noted any more. */
    String messages() {
        String all = notedMessages();
        kernel.clear();
        return all;
    }

    private String notedMessages() {
        StringBuilder all = new StringBuilder();
        int count = kernel.about(0, 9);
        for (int k = 0; k < count; k++) {
            all.append(k == 0 ? "" : "|").append(kernel.message(k, 0)).append(' ').append(kernel.message(k, 1));
            all.append(' ').append(kernel.message(k, 2)).append(' ').append(messageText(k));
        }
        return all.toString();
    }

    /** What can be told of tabs, frames, requests, the jar, messages, what is shown, and of storage. */
    String state() {
        int[] many = {4, 16, 16, 16, 16, 24, 24, 1, 1, 1, 1};
        StringBuilder all = new StringBuilder(notedMessages());
        for (int what = 0; what < many.length; what++) {
            for (int k = 0; k < many[what]; k++) {
                all.append(' ').append(kernel.about(k, what));
            }
        }
        for (int f = 0; f < 16; f++) {
            if (kernel.about(f, 1) != TabKernel.NONE) {
                all.append(" stored ").append(kernel.stored(f, 0));
            }
        }
        return all.append(" shown ").append(shown()).append(" time ").append(kernel.pass(0)).toString();
    }
}
