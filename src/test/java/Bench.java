import java.util.ArrayList;
import java.util.List;
import java.util.function.Consumer;
import java.util.function.Function;
import java.util.function.ToIntFunction;

/**
 * A kernel that is spoken to in words, and a count of the answers that were not as due.
 * It has all calls of the face under their own names; those that take the line can be told their text too.
 */
final class Bench {
    /** An object is used for so many calls; what later ones answer is free. */
    private static final int MOST_CALLS = 512;
    private static final int MOST_PRINTED = 50;

    private static int asked;
    private static int wrong;

    private final int quota;
    /** The calls that may have changed the kernel, by which another one comes to the same state. */
    private final List<Function<TabKernel, ?>> past = new ArrayList<>();
    private TabKernel kernel;
    private int calls;

    Bench() {
        this(40);
    }

    Bench(int quota) {
        this.quota = quota;
        kernel = new TabKernel(quota);
    }

    /** Another one in the same state. */
    Bench copy() {
        Bench other = new Bench(quota);
        other.past.addAll(past);
        other.renew();
        return other;
    }

    private void renew() {
        kernel = new TabKernel(quota);
        for (Function<TabKernel, ?> call : past) {
            try {
                call.apply(kernel);
            } catch (IndexOutOfBoundsException e) {
                // The first time its caller has seen it.
            }
        }
        calls = past.size();
    }

    /** Looking takes calls too: where none is left, a new kernel goes on. */
    private void makeRoom() {
        if (calls >= MOST_CALLS) {
            renew();
        }
        if (calls >= MOST_CALLS) {
            throw new IllegalStateException("a test that goes beyond 512 calls");
        }
        calls++;
    }

    private <T> T change(Function<TabKernel, T> call) {
        makeRoom();
        past.add(call);
        return call.apply(kernel);
    }

    private void tell(Consumer<TabKernel> call) {
        change(k -> {
            call.accept(k);
            return null;
        });
    }

    private int look(ToIntFunction<TabKernel> call) {
        makeRoom();
        return call.applyAsInt(kernel);
    }

    static void same(String what, Object got, Object want) {
        asked++;
        if (!got.equals(want)) {
            wrong++;
        }
        if (!got.equals(want) && wrong <= MOST_PRINTED) {
            System.out.println(what + ": answered <" + got + ">, due is <" + want + ">");
        }
    }

    static void throwsIndex(String what, Runnable call) {
        same(what + " throws", thrownBy(call), "IndexOutOfBoundsException");
    }

    private static String thrownBy(Runnable call) {
        try {
            call.run();
            return "nothing";
        } catch (RuntimeException e) {
            return e.getClass().getSimpleName();
        }
    }

    /** To be called at the end of every test. */
    static void end() {
        System.out.println(asked + " answers, " + wrong + " not as due");
        if (wrong != 0 || asked == 0) {
            System.exit(1);
        }
    }

    /**
     * On a copy: a call that answers so and notes these messages (with | between) changes nothing else of the state.
     * The line is to be empty before it, and so it is behind it.
     */
    void refuses(String what, Object answer, String notes, Function<Bench, Object> call) {
        Bench other = copy();
        same(what, call.apply(other), answer);
        same(what + ": line", other.lineLength(), 0);
        String before = noted();
        same(what + ": messages", other.noted(), before + (before.isEmpty() || notes.isEmpty() ? "" : "|") + notes);
        same(what + ": nothing else changes", other.state(), state());
    }

    /** On a copy: a call with this line throws, leaves so much of the line, notes nothing and leaves the state as it is. */
    void throwsOn(String what, String line, int left, Consumer<Bench> call) {
        Bench other = copy().line(line);
        throwsIndex(what, () -> call.accept(other));
        same(what + ": line", other.lineLength(), left);
        same(what + ": no message", other.noted(), noted());
        same(what + ": nothing else changes", other.state(), state());
    }

    static long packed(String upToEight) {
        long w = 0;
        for (char c : upToEight.toCharArray()) {
            w = w << 8 | c;
        }
        return w;
    }

    static void type(TabKernel kernel, String text) {
        for (int i = 0; i < text.length(); i += 8) {
            kernel.type(packed(text.substring(i, Math.min(text.length(), i + 8))));
        }
    }

    Bench line(String text) {
        for (int i = 0; i < text.length(); i += 8) {
            type(packed(text.substring(i, Math.min(text.length(), i + 8))));
        }
        return this;
    }

    int lineLength() {
        return look(k -> k.type(0));
    }

    int type(long w) {
        return change(k -> k.type(w));
    }

    int suffix() {
        return change(k -> k.suffix());
    }

    int suffix(String text) {
        return line(text).suffix();
    }

    int pass(int n) {
        return change(k -> k.pass(n));
    }

    int open() {
        return change(k -> k.open());
    }

    int open(String text) {
        return line(text).open();
    }

    void close(int tab) {
        tell(k -> k.close(tab));
    }

    void focus(int tab) {
        tell(k -> k.focus(tab));
    }

    int enter() {
        return change(k -> k.enter());
    }

    int enter(String text) {
        return line(text).enter();
    }

    int child(int f) {
        return change(k -> k.child(f));
    }

    int child(int f, String text) {
        return line(text).child(f);
    }

    int navigate(int f, int g) {
        return change(k -> k.navigate(f, g));
    }

    int navigate(int f, int g, String text) {
        return line(text).navigate(f, g);
    }

    int fetch(int f, int mode, boolean with) {
        return change(k -> k.fetch(f, mode, with));
    }

    int fetch(int f, int mode, boolean with, String text) {
        return line(text).fetch(f, mode, with);
    }

    void answer(int r) {
        tell(k -> k.answer(r));
    }

    void answer(int r, String text) {
        line(text).answer(r);
    }

    void set(int r) {
        tell(k -> k.set(r));
    }

    void set(int r, String text) {
        line(text).set(r);
    }

    void leave(int r, boolean with) {
        tell(k -> k.leave(r, with));
    }

    void leave(int r, boolean with, String text) {
        line(text).leave(r, with);
    }

    boolean lead(int r) {
        return change(k -> k.lead(r));
    }

    boolean lead(int r, String text) {
        return line(text).lead(r);
    }

    int cookies(int f) {
        return change(k -> k.cookies(f));
    }

    boolean cookie(int f) {
        return change(k -> k.cookie(f));
    }

    boolean cookie(int f, String text) {
        return line(text).cookie(f);
    }

    boolean store(int f, int key, int value) {
        return change(k -> k.store(f, key, value));
    }

    int stored(int f, int key) {
        return look(k -> k.stored(f, key));
    }

    boolean post(int f, int g, int data) {
        return change(k -> k.post(f, g, data));
    }

    boolean post(int f, int g, int data, String text) {
        return line(text).post(f, g, data);
    }

    int bar() {
        return change(k -> k.bar());
    }

    int about(int k, int what) {
        return look(kernel -> kernel.about(k, what));
    }

    int message(int k, int what) {
        return look(kernel -> kernel.message(k, what));
    }

    int letter(int k, int j) {
        return look(kernel -> kernel.letter(k, j));
    }

    void clear() {
        tell(k -> k.clear());
    }

    int shown(int k) {
        return look(kernel -> kernel.shown(k));
    }

    int time() {
        return look(k -> k.pass(0));
    }

    int cookieCount() {
        return about(0, 8);
    }

    int messageCount() {
        return about(0, 9);
    }

    /** A new tab whose TOP is committed there: the TOP. */
    int committed(String address) {
        int tab = open(address);
        int top = about(tab, 0);
        answer(about(top, 4));
        return top;
    }

    /** A child of f that is committed there: its frame. */
    int committedChild(int f, String address) {
        int inner = child(f, address);
        answer(about(inner, 4));
        return inner;
    }

    /** Commits frame f anew. */
    void go(int f, String address) {
        answer(navigate(f, f, address));
    }

    String cookiesOf(int f) {
        return told(cookies(f));
    }

    String barText() {
        return told(bar());
    }

    private String told(int length) {
        if (length == TabKernel.NONE) {
            return "none";
        }
        String text = shown();
        same("length of what is shown", length, text.length());
        return text;
    }

    String shown() {
        StringBuilder text = new StringBuilder();
        for (int c = shown(0); c != TabKernel.NONE; c = shown(text.length())) {
            text.append((char) c);
        }
        return text.toString();
    }

    String messageText(int k) {
        StringBuilder text = new StringBuilder();
        for (int c = letter(k, 0); c != TabKernel.NONE; c = letter(k, text.length())) {
            text.append((char) c);
        }
        same("length of a message", message(k, 3), text.length());
        return text.toString();
    }

    /** All messages, as "kind first second text" with | between. */
    String noted() {
        StringBuilder all = new StringBuilder();
        int count = messageCount();
        for (int k = 0; k < count; k++) {
            all.append(k == 0 ? "" : "|").append(message(k, 0)).append(' ').append(message(k, 1));
            all.append(' ').append(message(k, 2)).append(' ').append(messageText(k));
        }
        return all.toString();
    }

    /** All messages; then none are noted any more. */
    String messages() {
        String all = noted();
        clear();
        return all;
    }

    /**
     * Tabs, frames, requests, time, what is shown, counts, and the cookies and storage of the places where frames are.
     * Messages and the line are not in it. What only a call that changes something tells, a copy tells.
     */
    String state() {
        int[] many = {4, 16, 16, 16, 16, 24, 24, 1, 1, 0, 1};
        StringBuilder all = new StringBuilder("time ").append(time()).append(" shown ").append(shown());
        for (int what = 0; what < many.length; what++) {
            for (int k = 0; k < many[what]; k++) {
                all.append(' ').append(about(k, what));
            }
        }
        for (int f = 0; f < 16; f++) {
            if (about(f, 1) != TabKernel.NONE) {
                all.append(" frame ").append(f).append(copy().tellFrame(f));
            }
        }
        for (int r = 0; r < 24; r++) {
            if (about(r, 5) != TabKernel.NONE) {
                all.append(" request ").append(r).append(copy().tellReply(r)).append(copy().tellLeads(r));
            }
        }
        return all.toString();
    }

    /** Storage, cookies and, by a request for it, the address. */
    private String tellFrame(int f) {
        StringBuilder all = new StringBuilder();
        for (int key = 0; key < 8; key++) {
            all.append(' ').append(stored(f, key));
        }
        all.append(' ').append(cookiesOf(f));
        takeAway();
        for (int r = 0; r < 24 && about(23, 5) != TabKernel.NONE; r++) {
            if (about(r, 6) == 1) {
                answer(r);
            }
        }
        clear();
        navigate(f, f);
        return all.append(' ').append(messages()).toString();
    }

    /** Whether its reply would be seen, and where a frame would be committed. */
    private String tellReply(int r) {
        takeAway();
        clear();
        answer(r);
        return ' ' + messages();
    }

    /** Its address, and how often it may still be led on. */
    private String tellLeads(int r) {
        takeAway();
        clear();
        for (int i = 0; i < 7 && lead(r); i++) {
            same("a request that is led on stays", about(r, 5) == TabKernel.NONE, false);
        }
        return ' ' + messages();
    }

    /** A line that is no host. */
    private void takeAway() {
        type(' ');
        suffix();
    }
}
