import java.math.BigInteger;
import java.util.ArrayDeque;
import java.util.ArrayList;
import java.util.Arrays;
import java.util.Deque;
import java.util.List;
import java.util.regex.Matcher;
import java.util.regex.Pattern;

/** The document told a second time, slowly and with the Java library, to compare TabTrails with. */
final class Model {
    static final int NONE = -1000000, BAD = -1000001, STATE = -1000002, FULL = -1000003;
    private static final int NULL = 1, PLACE = 2, KIND = 3, SIZE = 4, STORE = 5;
    private static final String SORTS = "?psngk";
    private static final Class<?>[] KINDS = {Any.class, Plain.class, Short.class, Pinned.class, Guest.class, Kiosk.class};

    /** Kinds as classes, so that the bodies are chosen by Java itself and not by a table. */
    private static class Any {
        int place;
        int length;
        int shown;
        List<Integer> trace;

        int size() {
            trace.add(10);
            return length;
        }

        int mark() {
            trace.add(20);
            return place;
        }
    }

    private static class Plain extends Any {
        @Override int size() {
            trace.add(11);
            int wide = super.size();
            return wide + mark();
        }

        @Override int mark() {
            trace.add(21);
            return super.mark() + shown;
        }
    }

    private static class Short extends Plain {
        @Override int size() {
            trace.add(12);
            return 0 - super.size();
        }

        @Override int mark() {
            trace.add(24);
            return super.mark() * 2;
        }
    }

    private static class Pinned extends Plain {
        @Override int mark() {
            trace.add(22);
            return super.mark() - 1000;
        }
    }

    private static class Guest extends Any {
        @Override int size() {
            trace.add(13);
            return super.size() - 100;
        }

        @Override int mark() {
            trace.add(23);
            int wide = super.mark();
            return wide - size();
        }
    }

    private static class Kiosk extends Guest {
        @Override int size() {
            trace.add(14);
            return super.size() * 2;
        }
    }

    private record Tab(int sort, int home, List<Integer> trail, int at) {
        int page() {
            return trail.get(at);
        }
    }

    /** A whole web; every act makes another one. */
    private record Web(List<List<Integer>> links, List<Tab> tabs, int now, List<Tab> closed, List<Integer> visits) {
        int page() {
            return tabs.get(now).page();
        }

        Web withNow(Tab tab) {
            List<Tab> others = new ArrayList<>(tabs);
            others.set(now, tab);
            return new Web(links, others, now, closed, visits);
        }

        Web visited(int page) {
            List<Integer> more = new ArrayList<>(visits);
            more.set(page, Math.min(999, more.get(page) + 1));
            return new Web(links, tabs, now, closed, more);
        }

        Web inserted(int place, Tab tab) {
            List<Tab> others = new ArrayList<>(tabs);
            others.add(place, tab);
            return new Web(links, others, place, closed, visits);
        }
    }

    private static final class Row {
        int lane;
        int[] items;
    }

    private final Row[] rows = new Row[8];
    private final StringBuilder tape = new StringBuilder();
    private Web web = null;
    private final Deque<Web> undos = new ArrayDeque<>();
    private final Web[] images = new Web[2];
    private final List<Integer> trace = new ArrayList<>();
    private int fault = 0;
    private int status = 0;

    private int found(int number) {
        status = number;
        return -1000010 - number;
    }

    private int fine(int answer) {
        status = 0;
        return answer;
    }

    private static boolean within(long number, long least, long most) {
        return number >= least && number <= most;
    }

    private boolean isPage(int page) {
        return web != null && within(page, 0, web.links.size() - 1);
    }

    private boolean isTab(int tab) {
        return web != null && within(tab, 0, web.tabs.size() - 1);
    }

    // ---- rows

    int row(int row, int lane, int n) {
        if (!within(row, 0, 7) || !within(lane, 0, 2) || n > 40) {
            return BAD;
        }
        if (n < 0) {
            return found(SIZE);
        }
        rows[row] = new Row();
        rows[row].lane = lane;
        rows[row].items = new int[n];
        return fine(n);
    }

    int set(int row, int i, int v) {
        if (!within(row, 0, 7)) {
            return BAD;
        }
        if (rows[row] == null) {
            return found(NULL);
        }
        if (!within(i, 0, rows[row].items.length - 1)) {
            return found(PLACE);
        }
        int bits = 32 - (8 << rows[row].lane);
        rows[row].items[i] = v << bits >> bits;
        return fine(rows[row].items[i]);
    }

    int copy(int a, int i, int b, int j, int n) {
        if (!within(a, 0, 7) || !within(b, 0, 7)) {
            return BAD;
        }
        if (rows[a] == null || rows[b] == null) {
            return found(NULL);
        }
        if (rows[a].lane != rows[b].lane) {
            return found(STORE);
        }
        if (i < 0 || j < 0 || n < 0 || (long) i + n > rows[a].items.length || (long) j + n > rows[b].items.length) {
            return found(PLACE);
        }
        int[] ahead = rows[a].items.clone();
        for (int k = 0; k < n; k++) {
            rows[b].items[j + k] = ahead[i + k];
        }
        return fine(n);
    }

    int drop(int row) {
        if (!within(row, 0, 7)) {
            return BAD;
        }
        if (rows[row] == null) {
            return found(NULL);
        }
        int had = rows[row].items.length;
        rows[row] = null;
        return fine(had);
    }

    // ---- webs, acts

    int feed(int letter) {
        if (!within(letter, 0, 255)) {
            return BAD;
        }
        if (tape.length() == 80) {
            return FULL;
        }
        tape.append((char) letter);
        return tape.length();
    }

    int web() {
        String text = tape.toString();
        tape.setLength(0);
        int[] faultOut = new int[2];
        Web read = parse(text, faultOut);
        if (read == null) {
            fault = faultOut[0];
            return -1000100 - faultOut[1];
        }
        web = read;
        undos.clear();
        return web.tabs.size();
    }

    /** By a table of states: what may come next is a set of letters, and N for a number. */
    private static Web parse(String text, int[] faultOut) {
        Matcher tokens = Pattern.compile("[0-9]+|.", Pattern.DOTALL).matcher(text);
        List<List<Integer>> links = new ArrayList<>();
        List<Tab> tabs = new ArrayList<>();
        int pages = 0;
        int sort = 0;
        String part = "";
        String next = "w";
        while (tokens.find()) {
            String token = tokens.group();
            boolean figures = token.matches("[0-9]+");
            String shape = figures ? (token.length() <= 2 ? "N" : "#") : token;
            int wrong = !next.contains(shape) || shape.equals("N") && token.equals("N") ? 1 : 0;
            int value = wrong == 0 && figures ? Integer.parseInt(token) : 0;
            if (wrong == 0 && figures && (part.equals("w") ? !within(value, 2, 8) : value >= pages)) {
                wrong = 2;
            }
            if (wrong == 0 && SORTS.contains(token) && tabs.size() == 5) {
                wrong = 3;
            }
            if (wrong != 0) {
                faultOut[0] = wrong;
                faultOut[1] = tokens.start();
                return null;
            }
            if (token.equals("w") || token.equals("l")) {
                part = token;
                next = "N";
                if (token.equals("l")) {
                    links.add(new ArrayList<>());
                }
            } else if (SORTS.contains(token)) {
                part = "t";
                sort = SORTS.indexOf(token);
                next = "N";
            } else if (token.equals(",")) {
                next = "N";
            } else if (token.equals(";")) {
                next = links.size() < pages ? "l" : "psngk";
                part = links.size() == pages && part.equals("t") ? "end" : "";
            } else if (part.equals("w")) {
                pages = value;
                next = ";";
            } else if (part.equals("l")) {
                links.get(links.size() - 1).add(value);
                next = links.get(links.size() - 1).size() < 3 ? ",;" : ";";
            } else {
                tabs.add(new Tab(sort, value, List.of(value), 0));
                next = ";";
            }
        }
        if (!part.equals("end")) {
            faultOut[0] = 1;
            faultOut[1] = text.length();
            return null;
        }
        return new Web(links, tabs, 0, List.of(), new ArrayList<>(java.util.Collections.nCopies(pages, 0)));
    }

    int fault() {
        return fault;
    }

    private static Web followed(Web w, int j) {
        Tab tab = w.tabs.get(w.now);
        List<Integer> here = w.links.get(tab.page());
        if (j >= here.size()) {
            return null;
        }
        int page = here.get(j);
        if (tab.sort == 3) {
            return w.tabs.size() == 5 ? null : w.inserted(w.now + 1, new Tab(1, page, List.of(page), 0)).visited(page);
        }
        List<Integer> trail = new ArrayList<>(tab.trail.subList(0, tab.at + 1));
        trail.add(page);
        if (tab.sort == 5 && trail.size() > 3) {
            trail = List.of(tab.home);
        } else if (trail.size() > (tab.sort == 2 ? 3 : 6)) {
            trail.remove(0);
        }
        Web after = w.withNow(new Tab(tab.sort, tab.home, trail, trail.size() - 1));
        return after.visited(after.page());
    }

    private static Web moved(Web w, int by) {
        Tab tab = w.tabs.get(w.now);
        int at = tab.at + by;
        if (tab.sort == 5 || at < 0 || at >= tab.trail.size()) {
            return null;
        }
        return w.withNow(new Tab(tab.sort, tab.home, tab.trail, at));
    }

    private static Web selected(Web w, int tab) {
        return tab == w.now ? null : new Web(w.links, w.tabs, tab, w.closed, w.visits);
    }

    private static Web opened(Web w, int page) {
        return w.tabs.size() == 5 ? null : w.inserted(w.tabs.size(), new Tab(1, page, List.of(page), 0)).visited(page);
    }

    private static Web closed(Web w) {
        if (w.tabs.size() == 1) {
            return null;
        }
        List<Tab> tabs = new ArrayList<>(w.tabs);
        Tab gone = tabs.remove(w.now);
        List<Tab> closed = new ArrayList<>(w.closed);
        if (gone.sort < 4) {
            closed.add(gone);
        }
        if (closed.size() > 3) {
            closed.remove(0);
        }
        return new Web(w.links, tabs, w.now < tabs.size() ? w.now : tabs.size() - 1, closed, w.visits);
    }

    private static Web reopened(Web w) {
        if (w.closed.isEmpty() || w.tabs.size() == 5) {
            return null;
        }
        Web more = w.inserted(w.tabs.size(), w.closed.get(w.closed.size() - 1));
        return new Web(more.links, more.tabs, more.now, w.closed.subList(0, w.closed.size() - 1), w.visits);
    }

    private boolean act(Web after) {
        if (after == null) {
            return false;
        }
        undos.push(web);
        if (undos.size() > 24) {
            undos.removeLast();
        }
        web = after;
        return true;
    }

    int follow(int j) {
        if (web == null) {
            return STATE;
        }
        if (!within(j, 0, 2)) {
            return BAD;
        }
        return act(followed(web, j)) ? web.page() : STATE;
    }

    int back() {
        return web != null && act(moved(web, -1)) ? web.page() : STATE;
    }

    int forward() {
        return web != null && act(moved(web, 1)) ? web.page() : STATE;
    }

    int select(int tab) {
        if (!isTab(tab)) {
            return BAD;
        }
        int before = web.now;
        return act(selected(web, tab)) ? before : STATE;
    }

    int open(int page) {
        if (!isPage(page)) {
            return BAD;
        }
        return act(opened(web, page)) ? web.tabs.size() : STATE;
    }

    int close() {
        return web != null && act(closed(web)) ? web.now : STATE;
    }

    int again() {
        return web != null && act(reopened(web)) ? web.tabs.size() : STATE;
    }

    int undo() {
        if (undos.isEmpty()) {
            return STATE;
        }
        web = undos.pop();
        return undos.size();
    }

    int tab(int tab, int what) {
        if (!isTab(tab) || !within(what, 0, 3)) {
            return BAD;
        }
        Tab t = web.tabs.get(tab);
        return List.of(t.page(), t.home, t.trail.size(), t.at).get(what);
    }

    int trail(int tab, int k) {
        if (!isTab(tab) || k < 0) {
            return BAD;
        }
        List<Integer> trail = web.tabs.get(tab).trail;
        return k < trail.size() ? trail.get(k) : NONE;
    }

    int page(int page, int what) {
        if (!isPage(page) || !within(what, 0, 4)) {
            return BAD;
        }
        List<Integer> links = web.links.get(page);
        if (what == 0) {
            return links.size();
        }
        if (what == 4) {
            return web.visits.get(page);
        }
        return what <= links.size() ? links.get(what - 1) : NONE;
    }

    // ---- foretold

    int walk(int n, int j) {
        if (web == null) {
            return STATE;
        }
        if (!within(n, 0, 60) || !within(j, 0, 2)) {
            return BAD;
        }
        int at = web.page();
        for (int i = 0; i < n; i++) {
            List<Integer> links = web.links.get(at);
            at = j < links.size() ? links.get(j) : links.get(links.size() - 1);
        }
        return at;
    }

    private int[][] distances() {
        int size = web.links.size();
        int[][] far = new int[size][size];
        for (int[] line : far) {
            Arrays.fill(line, 1000);
        }
        for (int p = 0; p < size; p++) {
            for (int q : web.links.get(p)) {
                far[p][q] = 1;
            }
            far[p][p] = 0;
        }
        for (int k = 0; k < size; k++) {
            for (int p = 0; p < size; p++) {
                for (int q = 0; q < size; q++) {
                    far[p][q] = Math.min(far[p][q], far[p][k] + far[k][q]);
                }
            }
        }
        return far;
    }

    int far(int from, int to) {
        if (!isPage(from) || !isPage(to)) {
            return BAD;
        }
        int steps = distances()[from][to];
        return steps < 1000 ? steps : NONE;
    }

    int round(int page) {
        if (!isPage(page)) {
            return BAD;
        }
        int[][] far = distances();
        int bits = 0;
        for (int p = 0; p < far.length; p++) {
            bits += far[p][page] < 1000 && far[page][p] < 1000 ? 1 << p : 0;
        }
        return bits;
    }

    private record Pressed(Web web, List<Integer> presses) { }

    int to(int page, int k) {
        if (!isPage(page) || k < -1) {
            return BAD;
        }
        Deque<Pressed> queue = new ArrayDeque<>(List.of(new Pressed(web, List.of())));
        while (!queue.isEmpty()) {
            Pressed first = queue.poll();
            if (first.web.page() == page) {
                int length = first.presses.size();
                return k == -1 ? length : k < length ? first.presses.get(k) : NONE;
            }
            for (int press = 0; press < 5 && first.presses.size() < 4; press++) {
                Web w = press < 2 ? moved(first.web, press == 0 ? -1 : 1) : followed(first.web, press - 2);
                if (w != null) {
                    List<Integer> presses = new ArrayList<>(first.presses);
                    presses.add(press);
                    queue.add(new Pressed(w, presses));
                }
            }
        }
        return NONE;
    }

    private int waysFrom(int from, int to, int n) {
        if (n == 0) {
            return from == to ? 1 : 0;
        }
        int sum = 0;
        for (int next : web.links.get(from)) {
            sum += waysFrom(next, to, n - 1);
        }
        return sum;
    }

    int ways(int page, int n) {
        return !isPage(page) || !within(n, 0, 12) ? BAD : waysFrom(web.page(), page, n);
    }

    int share(int page, int n) {
        if (!isPage(page) || !within(n, 0, 999)) {
            return BAD;
        }
        int all = web.visits.stream().mapToInt(v -> v).sum();
        if (all == 0) {
            return 0;
        }
        int[] shares = web.visits.stream().mapToInt(v -> n * v / all).toArray();
        int over = n - Arrays.stream(shares).sum();
        for (int p = 0; p < shares.length && over > 0; p++) {
            if (web.visits.get(p) > 0) {
                shares[p]++;
                over--;
            }
        }
        return shares[page];
    }

    private static boolean tells(Web start, int[] items) {
        Web w = start;
        for (int item : items) {
            Web next = followed(w, 0);
            w = next == null ? w : next;
            if (w.page() != item) {
                return false;
            }
        }
        return true;
    }

    private Web guessed(int page, int what, int candidate) {
        Tab t = web.tabs.get(web.now);
        switch (what) {
            case 0:
                return web.withNow(new Tab(candidate, t.home, t.trail, t.at));
            case 1: {
                List<Integer> trail = new ArrayList<>(t.trail);
                trail.set(t.at, candidate);
                return web.withNow(new Tab(t.sort, t.home, trail, t.at));
            }
            case 2: {
                List<List<Integer>> links = new ArrayList<>(web.links);
                List<Integer> turned = new ArrayList<>(links.get(page));
                turned.set(0, candidate);
                links.set(page, turned);
                return new Web(links, web.tabs, web.now, web.closed, web.visits);
            }
            default:
                return web.withNow(new Tab(t.sort, candidate, t.trail, t.at));
        }
    }

    int fits(int page, int row, int i, int n, int what) {
        if (!isPage(page) || !within(row, 0, 7) || !within(n, 1, 12) || !within(what, 0, 3)) {
            return BAD;
        }
        if (rows[row] == null) {
            return found(NULL);
        }
        if (i < 0 || (long) i + n > rows[row].items.length) {
            return found(PLACE);
        }
        int[] items = Arrays.copyOfRange(rows[row].items, i, i + n);
        int bits = 0;
        for (int c = what == 0 ? 1 : 0; c < (what == 0 ? 6 : web.links.size()); c++) {
            bits |= tells(guessed(page, what, c), items) ? 1 << c : 0;
        }
        return fine(bits);
    }

    /** Above and below, not in lowest terms yet. */
    private BigInteger[] likely(int from, int to, int n) {
        if (n == 0) {
            return new BigInteger[] {from == to ? BigInteger.ONE : BigInteger.ZERO, BigInteger.ONE};
        }
        BigInteger above = BigInteger.ZERO;
        BigInteger below = BigInteger.ONE;
        for (int next : web.links.get(from)) {
            BigInteger[] rest = likely(next, to, n - 1);
            above = above.multiply(rest[1]).add(rest[0].multiply(below));
            below = below.multiply(rest[1]);
            BigInteger common = above.gcd(below);
            above = above.divide(common);
            below = below.divide(common);
        }
        return new BigInteger[] {above, below.multiply(BigInteger.valueOf(web.links.get(from).size()))};
    }

    int chance(int page, int n, int what) {
        if (!isPage(page) || !within(n, 0, 8) || !within(what, 0, 1)) {
            return BAD;
        }
        BigInteger[] fraction = likely(web.page(), page, n);
        return fraction[what].divide(fraction[0].gcd(fraction[1])).intValueExact();
    }

    int drawn(int n, int seed, int what) {
        if (web == null) {
            return STATE;
        }
        if (!within(n, 0, 60) || !within(seed, 1, 999999) || !within(what, 0, 1)) {
            return BAD;
        }
        Web w = web;
        long x = seed;
        for (int i = 0; i < n; i++) {
            x = x * 16807 % 2147483647;
            int rest = (int) (x % 7);
            Web after = rest < 3 ? followed(w, rest) : rest == 3 ? moved(w, -1)
                : rest == 4 ? selected(w, (int) (x % w.tabs.size()))
                : rest == 5 ? opened(w, (int) (x % w.links.size())) : closed(w);
            w = after == null ? w : after;
        }
        int more = w.visits.stream().mapToInt(v -> v).sum() - web.visits.stream().mapToInt(v -> v).sum();
        return what == 0 ? more : w.page();
    }

    int image(int k) {
        if (!within(k, 0, 1)) {
            return BAD;
        }
        if (web == null) {
            return STATE;
        }
        images[k] = web;
        return 1;
    }

    int restore(int k) {
        if (!within(k, 0, 1)) {
            return BAD;
        }
        if (images[k] == null) {
            return STATE;
        }
        web = images[k];
        undos.clear();
        return 1;
    }

    // ---- asked

    int kind(int tab) {
        return isTab(tab) ? web.tabs.get(tab).sort : BAD;
    }

    private Any asked(int tab) {
        Any any = switch (kind(tab)) {
            case 1 -> new Plain();
            case 2 -> new Short();
            case 3 -> new Pinned();
            case 4 -> new Guest();
            default -> new Kiosk();
        };
        any.place = tab;
        any.length = web.tabs.get(tab).trail.size();
        any.shown = web.tabs.get(tab).page();
        any.trace = trace;
        return any;
    }

    int as(int tab, int kind) {
        if (!isTab(tab) || !within(kind, 0, 5)) {
            return BAD;
        }
        return KINDS[kind].isInstance(asked(tab)) ? fine(tab) : found(KIND);
    }

    int ask(int tab, int what) {
        if (!isTab(tab) || !within(what, 0, 1)) {
            return BAD;
        }
        trace.clear();
        return what == 0 ? asked(tab).size() : asked(tab).mark();
    }

    int trace(int i) {
        return within(i, 0, Math.min(16, trace.size()) - 1) ? trace.get(i) : NONE;
    }

    int count(int what) {
        switch (what) {
            case 0: return (int) Arrays.stream(rows).filter(r -> r != null).count();
            case 1: return web == null ? 0 : web.links.size();
            case 2: return web == null ? 0 : web.tabs.size();
            case 3: return web == null ? 0 : web.now;
            case 4: return web == null ? 0 : web.page();
            case 5: return web == null ? 0 : web.closed.size();
            case 6: return web == null ? 0 : web.visits.stream().mapToInt(v -> v).sum();
            case 7: return undos.size();
            case 8: return tape.length();
            default: return BAD;
        }
    }

    int status() {
        return status;
    }
}
