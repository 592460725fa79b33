/**
 * The kernel of a browser, between renderers that may ask for anything, and the network.
 * The numbered promises of DOC.md say what each call does.
 */
public final class TabKernel {
    public static final int NONE = -1;

    private static final int LINE_MOST = 160;
    private static final int ADDRESS_MOST = 60;
    private static final int LABEL_MOST = 12;
    private static final int LABELS_MOST = 6;
    private static final int PORT_DIGITS_MOST = 5;
    private static final int PORT_MOST = 65535;
    private static final int TIME_MOST = 1000000000;
    private static final int SUFFIXES_MOST = 8;
    private static final int COOKIES_MOST = 40;
    private static final int COOKIE_PART_MOST = 12;
    private static final int COOKIE_PATH_MOST = 30;
    private static final int COOKIE_DOMAIN_MOST = 40;
    private static final int AGE_DIGITS_MOST = 7;
    private static final int TABS = 4;
    private static final int FRAMES = 16;
    private static final int DEPTH_MOST = 5;
    private static final int REQUESTS = 24;
    private static final int LEADS_MOST = 5;
    private static final int MESSAGES_MOST = 200;
    private static final int MESSAGE_TEXT_MOST = 200;
    private static final int ORIGINS_MOST = 8;
    private static final int KEYS = 8;

    private static final int MODE_OWN = 0;
    private static final int MODE_LEAVE = 1;
    private static final int MODE_UNSEEN = 2;

    private static final int REQUESTED = 1;
    private static final int COMMITTED = 2;
    private static final int BODY = 3;
    private static final int UNSEEN = 4;
    private static final int POSTED = 5;
    private static final int REFUSED = 6;

    private static final int NO_ADDRESS = 1;
    private static final int NOT_ALLOWED = 2;
    private static final int NO_ROOM = 3;

    private final StringBuilder line = new StringBuilder();
    private final StringBuilder scratch = new StringBuilder();
    private final AddressReader reader = new AddressReader();
    private final Jar jar;
    private final Storage storage = new Storage();
    private final Message[] messages = new Message[MESSAGES_MOST];
    private int messageCount;
    private final Frame[] tops = new Frame[TABS];
    private final Frame[] frames = new Frame[FRAMES];
    private final Request[] requests = new Request[REQUESTS];
    private int focused = NONE;
    private String latest = "";

    public TabKernel(int quota) {
        jar = new Jar(Math.max(1, Math.min(COOKIES_MOST, quota)));
    }

    public int type(long w) {
        int before = line.length();
        for (int shift = 56; shift >= 0; shift -= 8) {
            int c = (int) (w >>> shift) & 255;
            if (c == 0) {
                continue;
            }
            if (c < 32 || c > 126 || line.length() >= LINE_MOST) {
                line.setLength(before);
                return NONE;
            }
            line.append((char) c);
        }
        return line.length();
    }

    public int suffix() {
        String host = small(takeLine());
        if (hostEnd(host, 0) != host.length()) {
            return NONE;
        }
        return jar.suffixes.add(host) ? jar.suffixes.size() : NONE;
    }

    public int pass(int n) {
        return jar.advance(n) ? jar.time() : NONE;
    }

    public int open() {
        Address there = reader.read(takeLine(), null);
        int tab = freeTab();
        int number = freeFrame();
        if (there == null || tab == NONE || number == NONE || freeRequest() == NONE) {
            return NONE;
        }
        Frame top = addFrame(number, tab, null);
        tops[tab] = top;
        focused = tab;
        beginNavigation(top, there);
        return tab;
    }

    public void close(int tab) throws IndexOutOfBoundsException {
        Frame top = existingTop(tab);
        dropFramesInside(top);
        dropFrame(top);
        tops[tab] = null;
        if (focused == tab) {
            focused = NONE;
        }
    }

    public void focus(int tab) throws IndexOutOfBoundsException {
        existingTop(tab);
        focused = tab;
    }

    public int enter() {
        Address there = reader.read(takeLine(), null);
        Frame top = topAt(focused);
        return there == null || top == null ? NONE : beginNavigation(top, there);
    }

    public int child(int f) throws IndexOutOfBoundsException {
        String text = takeLine();
        Frame frame = existingFrame(f);
        if (frame.address == null || frame.depth >= DEPTH_MOST) {
            return refuse(frame, NOT_ALLOWED);
        }
        Address there = reader.read(text, frame.address);
        if (there == null) {
            return refuse(frame, NO_ADDRESS);
        }
        int number = freeFrame();
        if (number == NONE || freeRequest() == NONE) {
            return refuse(frame, NO_ROOM);
        }
        beginNavigation(addFrame(number, frame.tab, frame), there);
        return number;
    }

    public int navigate(int f, int g) throws IndexOutOfBoundsException {
        String text = takeLine();
        Frame asking = existingFrame(f);
        Frame moved = existingFrame(g);
        if (!mayNavigate(asking, moved)) {
            return refuse(asking, NOT_ALLOWED);
        }
        Address there = reader.read(text, asking.address);
        if (there == null) {
            return refuse(asking, NO_ADDRESS);
        }
        int number = beginNavigation(moved, there);
        return number == NONE ? refuse(asking, NO_ROOM) : number;
    }

    public int fetch(int f, int mode, boolean with) throws IndexOutOfBoundsException {
        String text = takeLine();
        Frame frame = existingFrame(f);
        if (frame.address == null || mode < MODE_OWN || mode > MODE_UNSEEN) {
            return refuse(frame, NOT_ALLOWED);
        }
        Address there = reader.read(text, frame.address);
        if (there == null) {
            return refuse(frame, NO_ADDRESS);
        }
        if (mode == MODE_OWN && !there.sameOrigin(frame.address)) {
            return refuse(frame, NOT_ALLOWED);
        }
        int number = freeRequest();
        if (number == NONE) {
            return refuse(frame, NO_ROOM);
        }
        return send(new Request(number, frame, there, mode, with));
    }

    public void answer(int r) throws IndexOutOfBoundsException {
        String text = takeLine();
        Request request = existingRequest(r);
        requests[r] = null;
        if (!request.isFetch()) {
            commit(request, text);
        } else if (request.maySeeReply()) {
            note(BODY, request.frame.number, r, text);
        } else {
            note(UNSEEN, request.frame.number, r, "");
        }
    }

    public void set(int r) throws IndexOutOfBoundsException {
        String text = takeLine();
        Request request = existingRequest(r);
        if (request.with) {
            jar.put(text, request.address, true);
        }
    }

    public void leave(int r, boolean with) throws IndexOutOfBoundsException {
        String text = takeLine();
        Request request = existingRequest(r);
        boolean forAll = text.equals("*");
        request.tellLeave(forAll, forAll ? null : reader.read(text, null), with);
    }

    public boolean lead(int r) throws IndexOutOfBoundsException {
        String text = takeLine();
        Request request = existingRequest(r);
        Address there = reader.read(text, request.address);
        if (there != null && request.mayLeadTo(there)) {
            request.leadTo(there);
            send(request);
            return true;
        }
        requests[r] = null;
        if (request.isFetch()) {
            note(UNSEEN, request.frame.number, r, "");
        } else {
            refuse(request.frame, there == null ? NO_ADDRESS : NOT_ALLOWED);
        }
        return false;
    }

    public int cookies(int f) throws IndexOutOfBoundsException {
        Frame frame = existingFrame(f);
        if (frame.address == null) {
            return NONE;
        }
        scratch.setLength(0);
        jar.appendGoing(scratch, frame.address, false);
        return show(scratch.toString());
    }

    public boolean cookie(int f) throws IndexOutOfBoundsException {
        String text = takeLine();
        Frame frame = existingFrame(f);
        if (frame.address == null) {
            return false;
        }
        jar.put(text, frame.address, false);
        return true;
    }

    public boolean store(int f, int key, int value) throws IndexOutOfBoundsException {
        Frame frame = existingFrame(f);
        return frame.address != null && storage.put(frame.address, key, value);
    }

    public int stored(int f, int key) throws IndexOutOfBoundsException {
        Frame frame = existingFrame(f);
        return frame.address == null ? 0 : storage.get(frame.address, key);
    }

    public boolean post(int f, int g, int data) throws IndexOutOfBoundsException {
        String text = takeLine();
        Frame from = existingFrame(f);
        Frame to = existingFrame(g);
        if (from.address == null || to.address == null || !isMeant(text, from.address, to.address)) {
            return false;
        }
        scratch.setLength(0);
        scratch.append(data);
        note(POSTED, g, f, scratch.toString());
        return true;
    }

    public int bar() {
        Frame top = topAt(focused);
        return show(top == null || top.address == null ? "" : top.address.text);
    }

    public int about(int k, int what) {
        switch (what) {
            case 0:
                Frame top = topAt(k);
                return top == null ? NONE : top.number;
            case 1:
            case 2:
            case 3:
            case 4:
                return aboutFrame(frameAt(k), what);
            case 5:
            case 6:
                return aboutRequest(requestAt(k), what);
            case 7:
                return focused;
            case 8:
                return jar.countLasting();
            case 9:
                return messageCount;
            case 10:
                return jar.suffixes.size();
            default:
                return NONE;
        }
    }

    public int message(int k, int what) {
        Message message = messageAt(k);
        if (message == null) {
            return NONE;
        }
        switch (what) {
            case 0:
                return message.kind;
            case 1:
                return message.first;
            case 2:
                return message.second;
            case 3:
                return message.text.length();
            default:
                return NONE;
        }
    }

    public int letter(int k, int j) {
        Message message = messageAt(k);
        return message == null ? NONE : characterAt(message.text, j);
    }

    public void clear() {
        messageCount = 0;
    }

    public int shown(int k) {
        return characterAt(latest, k);
    }

    private String takeLine() {
        String text = line.toString();
        line.setLength(0);
        return text;
    }

    private int show(String text) {
        latest = text;
        return text.length();
    }

    private void note(int kind, int first, int second, String text) {
        if (messageCount < MESSAGES_MOST) {
            messages[messageCount] = new Message(kind, first, second, text);
            messageCount++;
        }
    }

    private Message messageAt(int k) {
        return k < 0 || k >= messageCount ? null : messages[k];
    }

    private int refuse(Frame frame, int why) {
        note(REFUSED, frame.number, why, "");
        return NONE;
    }

    private Frame topAt(int tab) {
        return tab < 0 || tab >= TABS ? null : tops[tab];
    }

    private Frame frameAt(int f) {
        return f < 0 || f >= FRAMES ? null : frames[f];
    }

    private Request requestAt(int r) {
        return r < 0 || r >= REQUESTS ? null : requests[r];
    }

    private Frame existingTop(int tab) {
        Frame top = topAt(tab);
        if (top == null) {
            throw new IndexOutOfBoundsException("no such tab");
        }
        return top;
    }

    private Frame existingFrame(int f) {
        Frame frame = frameAt(f);
        if (frame == null) {
            throw new IndexOutOfBoundsException("no such frame");
        }
        return frame;
    }

    private Request existingRequest(int r) {
        Request request = requestAt(r);
        if (request == null) {
            throw new IndexOutOfBoundsException("no such request");
        }
        return request;
    }

    private int freeTab() {
        for (int i = 0; i < TABS; i++) {
            if (tops[i] == null) {
                return i;
            }
        }
        return NONE;
    }

    private int freeFrame() {
        for (int i = 0; i < FRAMES; i++) {
            if (frames[i] == null) {
                return i;
            }
        }
        return NONE;
    }

    private int freeRequest() {
        for (int i = 0; i < REQUESTS; i++) {
            if (requests[i] == null) {
                return i;
            }
        }
        return NONE;
    }

    private Frame addFrame(int number, int tab, Frame parent) {
        Frame frame = new Frame(number, tab, parent);
        frames[number] = frame;
        return frame;
    }

    private void dropFrame(Frame frame) {
        forgetRequests(frame);
        frames[frame.number] = null;
    }

    private void dropFramesInside(Frame outer) {
        for (int i = 0; i < FRAMES; i++) {
            Frame frame = frames[i];
            if (frame != null && frame.isInside(outer)) {
                dropFrame(frame);
            }
        }
    }

    private void forgetRequests(Frame frame) {
        for (int i = 0; i < REQUESTS; i++) {
            Request request = requests[i];
            if (request != null && request.frame == frame) {
                requests[i] = null;
            }
        }
    }

    private Request navigationOf(Frame frame) {
        for (int i = 0; i < REQUESTS; i++) {
            Request request = requests[i];
            if (request != null && request.frame == frame && !request.isFetch()) {
                return request;
            }
        }
        return null;
    }

    /** The request's number; NONE, with nothing changed, if there is no room. */
    private int beginNavigation(Frame frame, Address there) {
        Request under = navigationOf(frame);
        if (under != null) {
            requests[under.number] = null;
        }
        int number = freeRequest();
        return number == NONE ? NONE : send(new Request(number, frame, there, NONE, true));
    }

    private int send(Request request) {
        requests[request.number] = request;
        scratch.setLength(0);
        scratch.append(request.address.text);
        if (request.with) {
            int bare = scratch.length();
            scratch.append(' ');
            if (!jar.appendGoing(scratch, request.address, true)) {
                scratch.setLength(bare);
            }
        }
        if (scratch.length() > MESSAGE_TEXT_MOST) {
            scratch.setLength(MESSAGE_TEXT_MOST);
        }
        note(REQUESTED, request.number, request.frame.number, scratch.toString());
        return request.number;
    }

    private void commit(Request request, String text) {
        Frame frame = request.frame;
        frame.address = request.address;
        forgetRequests(frame);
        dropFramesInside(frame);
        note(COMMITTED, frame.number, frame.tab, frame.address.text);
        note(BODY, frame.number, request.number, text);
    }

    private boolean mayNavigate(Frame asking, Frame moved) {
        if (asking.address == null) {
            return false;
        }
        if (moved == asking || moved == topAt(asking.tab)) {
            return true;
        }
        for (Frame around = moved; around != null; around = around.parent) {
            if (asking.address.sameOrigin(around.address)) {
                return true;
            }
        }
        return false;
    }

    private boolean isMeant(String text, Address from, Address to) {
        if (text.equals("*")) {
            return true;
        }
        Address meant = text.equals("/") ? from : reader.read(text, null);
        return to.sameOrigin(meant);
    }

    private int aboutFrame(Frame frame, int what) {
        if (frame == null) {
            return NONE;
        }
        switch (what) {
            case 1:
                return frame.tab;
            case 2:
                return frame.parent == null ? NONE : frame.parent.number;
            case 3:
                return frame.address == null ? 0 : 1;
            default:
                Request under = navigationOf(frame);
                return under == null ? NONE : under.number;
        }
    }

    private static int aboutRequest(Request request, int what) {
        if (request == null) {
            return NONE;
        }
        if (what == 5) {
            return request.frame.number;
        }
        return request.isFetch() ? 1 : 0;
    }

    private static int characterAt(String text, int k) {
        return k < 0 || k >= text.length() ? NONE : text.charAt(k);
    }

    private static boolean isDigit(char c) {
        return c >= '0' && c <= '9';
    }

    private static boolean isLetter(char c) {
        return c >= 'a' && c <= 'z' || c >= 'A' && c <= 'Z';
    }

    private static String small(String text) {
        char[] letters = text.toCharArray();
        for (int i = 0; i < letters.length; i++) {
            if (letters[i] >= 'A' && letters[i] <= 'Z') {
                letters[i] += 'a' - 'A';
            }
        }
        return new String(letters);
    }

    /** The place of c in text from .. to - 1, or to. */
    private static int find(String text, char c, int from, int to) {
        for (int i = from; i < to; i++) {
            if (text.charAt(i) == c) {
                return i;
            }
        }
        return to;
    }

    /** Where the part begins that reaches up to end: behind the last c ahead of it, or 0. */
    private static int behindLast(String text, char c, int end) {
        for (int i = end; i > 0; i--) {
            if (text.charAt(i - 1) == c) {
                return i;
            }
        }
        return 0;
    }

    private static boolean standsAt(String text, int at, String word) {
        if (at < 0 || at > text.length() - word.length()) {
            return false;
        }
        for (int i = 0; i < word.length(); i++) {
            if (text.charAt(at + i) != word.charAt(i)) {
                return false;
            }
        }
        return true;
    }

    /** Whether host is tail, or ends with a dot and tail. */
    private static boolean isOrEndsWith(String host, String tail) {
        int from = host.length() - tail.length();
        return standsAt(host, from, tail) && (from == 0 || host.charAt(from - 1) == '.');
    }

    /** The place behind the HOST that stands in text at from, or NONE if none does. */
    private static int hostEnd(String text, int from) {
        int dots = 0;
        int inLabel = 0;
        int at = from;
        for (; at < text.length(); at++) {
            char c = text.charAt(at);
            if (isLetter(c) || isDigit(c) || c == '-') {
                inLabel++;
            } else if (c == '.' && inLabel > 0) {
                dots++;
                inLabel = 0;
            } else {
                break;
            }
            if (inLabel > LABEL_MOST || dots >= LABELS_MOST) {
                return NONE;
            }
        }
        return inLabel == 0 ? NONE : at;
    }

    /** An address whose DOTS are gone; it also stands for its ORIGIN. */
    private static final class Address {
        final boolean secure;
        final String host;
        final int port;
        final String path;
        /** With its ? in front; empty if there is none. */
        final String query;
        final String text;

        Address(boolean secure, String host, int port, String path, String query, String text) {
            this.secure = secure;
            this.host = host;
            this.port = port;
            this.path = path;
            this.query = query;
            this.text = text;
        }

        boolean sameOrigin(Address other) {
            return other != null && secure == other.secure && port == other.port
                    && host.equals(other.host);
        }
    }

    /** Reads addresses and references, one after the other. */
    private static final class AddressReader {
        private final StringBuilder scratch = new StringBuilder();
        private String text = "";
        private int at;
        private boolean secure;
        private String host = "";
        private int port;
        private String path = "";
        private String query = "";

        /** Null if there is no such address. Without a base (null) an ADDRESS alone is one. */
        Address read(String reference, Address base) {
            text = reference;
            at = 0;
            query = "";
            boolean good = readScheme() ? readFromHost() : base != null && readOnBase(base);
            return good ? finished() : null;
        }

        private boolean readScheme() {
            secure = skip("https://");
            return secure || skip("http://");
        }

        private boolean skip(String word) {
            int end = at + word.length();
            if (end > text.length() || !small(text.substring(at, end)).equals(word)) {
                return false;
            }
            at = end;
            return true;
        }

        private char next() {
            return at < text.length() ? text.charAt(at) : 0;
        }

        private boolean readFromHost() {
            int end = hostEnd(text, at);
            if (end == NONE) {
                return false;
            }
            host = small(text.substring(at, end));
            at = end;
            if (!readPort()) {
                return false;
            }
            if (next() == '/') {
                readPath("");
            } else {
                path = "/";
            }
            return readTail();
        }

        private boolean readOnBase(Address base) {
            secure = base.secure;
            if (skip("//")) {
                return readFromHost();
            }
            host = base.host;
            port = base.port;
            char first = next();
            if (at == text.length() || first == '?' || first == '#') {
                path = base.path;
                query = base.query;
            } else {
                readPath(first == '/' ? "" : folderWithSlash(base.path));
            }
            return readTail();
        }

        private static String folderWithSlash(String path) {
            return path.substring(0, behindLast(path, '/', path.length()));
        }

        private int usualPort() {
            return secure ? 443 : 80;
        }

        private boolean readPort() {
            port = usualPort();
            if (next() != ':') {
                return true;
            }
            at++;
            int from = at;
            port = 0;
            while (isDigit(next()) && at - from <= PORT_DIGITS_MOST) {
                port = port * 10 + (next() - '0');
                at++;
            }
            return at - from <= PORT_DIGITS_MOST && port >= 1 && port <= PORT_MOST;
        }

        private void readPath(String ahead) {
            int from = at;
            while (at < text.length() && isOfPath(text.charAt(at))) {
                at++;
            }
            scratch.setLength(0);
            scratch.append(ahead);
            scratch.append(text.substring(from, at));
            path = scratch.toString();
        }

        /** What does not belong to an address is left over here, and so the end is not reached. */
        private boolean readTail() {
            if (next() == '?') {
                int from = at;
                skipTail();
                query = text.substring(from, at);
            }
            if (next() == '#') {
                skipTail();
            }
            return at == text.length();
        }

        private void skipTail() {
            at++;
            while (at < text.length() && isOfQuery(text.charAt(at))) {
                at++;
            }
        }

        private static boolean isOfPath(char c) {
            return isLetter(c) || isDigit(c) || c == '-' || c == '.' || c == '_' || c == '~' || c == '/';
        }

        private static boolean isOfQuery(char c) {
            return isOfPath(c) || c == '=' || c == '&';
        }

        private String withoutDots(String dotted) {
            scratch.setLength(0);
            int slash = 0;
            for (int end = 1; end <= dotted.length(); end++) {
                boolean last = end == dotted.length();
                if (last || dotted.charAt(end) == '/') {
                    keepPart(dotted.substring(slash + 1, end), last);
                    slash = end;
                }
            }
            return scratch.toString();
        }

        private void keepPart(String part, boolean last) {
            boolean up = part.equals("..");
            if (up) {
                dropLastPart();
            }
            if (!up && !part.equals(".")) {
                scratch.append('/');
                scratch.append(part);
            } else if (last) {
                scratch.append('/');
            }
        }

        private void dropLastPart() {
            for (int i = scratch.length() - 1; i >= 0; i--) {
                if (scratch.charAt(i) == '/') {
                    scratch.setLength(i);
                    return;
                }
            }
        }

        private Address finished() {
            path = withoutDots(path);
            scratch.setLength(0);
            scratch.append(secure ? "https://" : "http://");
            scratch.append(host);
            if (port != usualPort()) {
                scratch.append(':');
                scratch.append(port);
            }
            scratch.append(path);
            scratch.append(query);
            if (scratch.length() > ADDRESS_MOST) {
                return null;
            }
            return new Address(secure, host, port, path, query, scratch.toString());
        }
    }

    private static final class Suffix {
        final String host;

        Suffix(String host) {
            this.host = host;
        }
    }

    private static final class Suffixes {
        private final Suffix[] rows = new Suffix[SUFFIXES_MOST];
        private int size;

        int size() {
            return size;
        }

        boolean add(String host) {
            if (size >= SUFFIXES_MOST || isListed(host)) {
                return false;
            }
            rows[size] = new Suffix(host);
            size++;
            return true;
        }

        private boolean isListed(String host) {
            for (int i = 0; i < size; i++) {
                if (rows[i].host.equals(host)) {
                    return true;
                }
            }
            return false;
        }

        boolean isSuffix(String host) {
            return host.indexOf('.') < 0 || isListed(host);
        }

        /** The site of a host is its end from here on. */
        int siteStart(String host) {
            int start = host.length();
            for (int i = 0; i < size; i++) {
                if (isOrEndsWith(host, rows[i].host)) {
                    start = Math.min(start, host.length() - rows[i].host.length());
                }
            }
            if (start == host.length()) {
                start = behindLast(host, '.', host.length());
            }
            return start == 0 ? 0 : behindLast(host, '.', start - 1);
        }
    }

    /** What the text of a cookie tells, whoever sends it. */
    private static final class CookieText {
        final String name;
        final String value;
        /** Empty without. */
        String domain = "";
        /** Empty without. */
        String path = "";
        /** NONE without. */
        int age = NONE;
        boolean secure;
        boolean hidden;

        private CookieText(String name, String value) {
            this.name = name;
            this.value = value;
        }

        /** Null if the text has no good pair. */
        static CookieText of(String text) {
            int end = find(text, ';', 0, text.length());
            int sign = find(text, '=', 0, end);
            if (sign == end) {
                return null;
            }
            String name = trimmed(text, 0, sign);
            String value = trimmed(text, sign + 1, end);
            if (name.isEmpty() || name.length() > COOKIE_PART_MOST || value.length() > COOKIE_PART_MOST) {
                return null;
            }
            CookieText told = new CookieText(name, value);
            int from = end + 1;
            for (int to = from; to <= text.length(); to++) {
                if (to == text.length() || text.charAt(to) == ';') {
                    told.readAttribute(text, from, to);
                    from = to + 1;
                }
            }
            return told;
        }

        private void readAttribute(String text, int from, int to) {
            int sign = find(text, '=', from, to);
            String key = small(trimmed(text, from, sign));
            String told = sign == to ? "" : trimmed(text, sign + 1, to);
            if (key.equals("domain")) {
                readDomain(told);
            } else if (key.equals("path")) {
                path = standsAt(told, 0, "/") ? told : "";
            } else if (key.equals("max-age")) {
                readAge(told);
            } else if (key.equals("secure")) {
                secure = true;
            } else if (key.equals("httponly")) {
                hidden = true;
            }
        }

        private void readDomain(String told) {
            String bare = standsAt(told, 0, ".") ? told.substring(1) : told;
            if (!bare.isEmpty()) {
                domain = small(bare);
            }
        }

        private void readAge(String told) {
            boolean minus = standsAt(told, 0, "-");
            int from = minus ? 1 : 0;
            int digits = told.length() - from;
            if (digits < 1 || digits > AGE_DIGITS_MOST) {
                return;
            }
            int sum = 0;
            for (int i = from; i < told.length(); i++) {
                if (!isDigit(told.charAt(i))) {
                    return;
                }
                sum = sum * 10 + (told.charAt(i) - '0');
            }
            age = minus ? 0 : sum;
        }

        private static String trimmed(String text, int from, int to) {
            int first = from;
            int behind = to;
            while (first < behind && text.charAt(first) == ' ') {
                first++;
            }
            while (behind > first && text.charAt(behind - 1) == ' ') {
                behind--;
            }
            return text.substring(first, behind);
        }
    }

    private static final class Cookie {
        final String name;
        final String value;
        final String domain;
        final boolean hostAlone;
        final String path;
        final boolean secure;
        final boolean hidden;
        /** NONE without. */
        final int end;

        Cookie(CookieText told, String domain, boolean hostAlone, String path, int end) {
            name = told.name;
            value = told.value;
            secure = told.secure;
            hidden = told.hidden;
            this.domain = domain;
            this.hostAlone = hostAlone;
            this.path = path;
            this.end = end;
        }

        boolean isOver(int time) {
            return end != NONE && end <= time;
        }

        boolean isOfSameKey(Cookie other) {
            return name.equals(other.name) && domain.equals(other.domain) && path.equals(other.path);
        }

        boolean goesWith(Address address, boolean network) {
            boolean toHost = hostAlone ? domain.equals(address.host) : isOrEndsWith(address.host, domain);
            return toHost && coversPath(address.path) && (!secure || address.secure) && (!hidden || network);
        }

        private boolean coversPath(String asked) {
            if (!standsAt(asked, 0, path)) {
                return false;
            }
            int length = path.length();
            return asked.length() == length || standsAt(path, length - 1, "/") || asked.charAt(length) == '/';
        }
    }

    /** All cookies, the suffixes that part their sites, and the TIME by which they end. */
    private static final class Jar {
        private final int quota;
        final Suffixes suffixes = new Suffixes();
        /** In the order of their numbers, so that the first row is the one that came first. */
        private final Cookie[] rows = new Cookie[COOKIES_MOST + 1];
        private int size;
        private final Cookie[] going = new Cookie[COOKIES_MOST];
        private int time;

        Jar(int quota) {
            this.quota = quota;
        }

        int time() {
            return time;
        }

        boolean advance(int n) {
            if (n < 0 || n > TIME_MOST - time) {
                return false;
            }
            time += n;
            return true;
        }

        int countLasting() {
            int count = 0;
            for (int i = 0; i < size; i++) {
                if (!rows[i].isOver(time)) {
                    count++;
                }
            }
            return count;
        }

        /** SETTING: the text may ask for anything, and often nothing happens. */
        void put(String text, Address by, boolean network) {
            dropOver();
            CookieText told = CookieText.of(text);
            Cookie cookie = told == null ? null : cookieOf(told, by);
            if (cookie == null) {
                return;
            }
            int at = placeOf(cookie);
            boolean hidden = cookie.hidden || at < size && rows[at].hidden;
            if (hidden && !network) {
                return;
            }
            if (!cookie.isOver(time)) {
                rows[at] = cookie;
                size = Math.max(size, at + 1);
            } else if (at < size) {
                drop(at);
            }
            dropBeyondQuota(cookie.domain);
            if (size > COOKIES_MOST) {
                drop(0);
            }
        }

        /** Null if this cookie may not be set by that address. */
        private Cookie cookieOf(CookieText told, Address by) {
            boolean hostAlone = told.domain.isEmpty();
            if (!hostAlone && !isOrEndsWith(by.host, told.domain)) {
                return null;
            }
            if (!hostAlone && suffixes.isSuffix(told.domain)) {
                if (!told.domain.equals(by.host)) {
                    return null;
                }
                hostAlone = true;
            }
            String domain = hostAlone ? by.host : told.domain;
            String path = told.path.isEmpty() ? folderOf(by.path) : told.path;
            if (told.secure && !by.secure) {
                return null;
            }
            if (path.length() > COOKIE_PATH_MOST || domain.length() > COOKIE_DOMAIN_MOST) {
                return null;
            }
            return new Cookie(told, domain, hostAlone, path, told.age == NONE ? NONE : time + told.age);
        }

        private static String folderOf(String path) {
            int length = behindLast(path, '/', path.length()) - 1;
            return length <= 0 ? "/" : path.substring(0, length);
        }

        /** The row that a cookie has or, if it is new, comes to. */
        private int placeOf(Cookie cookie) {
            for (int i = 0; i < size; i++) {
                if (rows[i].isOfSameKey(cookie)) {
                    return i;
                }
            }
            return size;
        }

        private void dropOver() {
            for (int i = size - 1; i >= 0; i--) {
                if (rows[i].isOver(time)) {
                    drop(i);
                }
            }
        }

        private void dropBeyondQuota(String domain) {
            String site = domain.substring(suffixes.siteStart(domain));
            int count = 0;
            for (int i = size - 1; i >= 0; i--) {
                if (isOfSite(rows[i].domain, site)) {
                    count++;
                    if (count > quota) {
                        drop(i);
                    }
                }
            }
        }

        private boolean isOfSite(String domain, String site) {
            int start = suffixes.siteStart(domain);
            return domain.length() - start == site.length() && standsAt(domain, start, site);
        }

        private void drop(int at) {
            for (int i = at; i < size - 1; i++) {
                rows[i] = rows[i + 1];
            }
            size--;
            rows[size] = null;
        }

        /** Appends the TEXT of those GOING WITH an address; false if there is none. */
        boolean appendGoing(StringBuilder to, Address address, boolean network) {
            int count = 0;
            for (int i = 0; i < size; i++) {
                if (!rows[i].isOver(time) && rows[i].goesWith(address, network)) {
                    lineUp(rows[i], count);
                    count++;
                }
            }
            for (int i = 0; i < count; i++) {
                if (i > 0) {
                    to.append("; ");
                }
                to.append(going[i].name);
                to.append('=');
                to.append(going[i].value);
            }
            return count > 0;
        }

        /** Behind those with paths as long or longer: they came earlier. */
        private void lineUp(Cookie cookie, int count) {
            int at = count;
            while (at > 0 && going[at - 1].path.length() < cookie.path.length()) {
                going[at] = going[at - 1];
                at--;
            }
            going[at] = cookie;
        }
    }

    private static final class Frame {
        final int number;
        final int tab;
        final Frame parent;
        final int depth;
        /** Null until the frame is committed. */
        Address address;

        Frame(int number, int tab, Frame parent) {
            this.number = number;
            this.tab = tab;
            this.parent = parent;
            depth = parent == null ? 1 : parent.depth + 1;
        }

        boolean isInside(Frame outer) {
            for (Frame around = parent; around != null; around = around.parent) {
                if (around == outer) {
                    return true;
                }
            }
            return false;
        }
    }

    private static final class Request {
        final int number;
        final Frame frame;
        /** NONE for a NAVIGATION. */
        private final int mode;
        final boolean with;
        /** The ORIGIN that asks, kept here because the frame may be committed elsewhere later. */
        private final Address asker;
        Address address;
        private int leads;
        private boolean leaveForAll;
        private Address leaveFor;
        private boolean leaveWith;

        Request(int number, Frame frame, Address address, int mode, boolean with) {
            this.number = number;
            this.frame = frame;
            this.address = address;
            this.mode = mode;
            this.with = with;
            asker = frame.address;
        }

        boolean isFetch() {
            return mode != NONE;
        }

        void tellLeave(boolean forAll, Address forOrigin, boolean withCookies) {
            leaveForAll = forAll;
            leaveFor = forOrigin;
            leaveWith = withCookies;
        }

        boolean maySeeReply() {
            if (address.sameOrigin(asker)) {
                return true;
            }
            if (mode != MODE_LEAVE) {
                return false;
            }
            if (leaveForAll) {
                return !with;
            }
            return asker != null && asker.sameOrigin(leaveFor) && (!with || leaveWith);
        }

        boolean mayLeadTo(Address there) {
            return leads < LEADS_MOST && (mode != MODE_OWN || there.sameOrigin(asker));
        }

        void leadTo(Address there) {
            address = there;
            leads++;
            tellLeave(false, null, false);
        }
    }

    private static final class Storage {
        private final Address[] origins = new Address[ORIGINS_MOST];
        private final int[] values = new int[ORIGINS_MOST * KEYS];
        private int size;

        boolean put(Address origin, int key, int value) {
            int row = rowOf(origin);
            if (!isKey(key) || row >= ORIGINS_MOST) {
                return false;
            }
            if (row == size) {
                origins[row] = origin;
                size++;
            }
            values[row * KEYS + key] = value;
            return true;
        }

        int get(Address origin, int key) {
            int row = rowOf(origin);
            return !isKey(key) || row >= size ? 0 : values[row * KEYS + key];
        }

        private static boolean isKey(int key) {
            return key >= 0 && key < KEYS;
        }

        /** The row of an origin, or the one that it would get. */
        private int rowOf(Address origin) {
            for (int i = 0; i < size; i++) {
                if (origins[i].sameOrigin(origin)) {
                    return i;
                }
            }
            return size;
        }
    }

    private static final class Message {
        final int kind;
        final int first;
        final int second;
        final String text;

        Message(int kind, int first, int second, String text) {
            this.kind = kind;
            this.first = first;
            this.second = second;
            this.text = text;
        }
    }
}
