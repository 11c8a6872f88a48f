/** Tabs that remember: pages linked to one another, and tabs in a row, each with a trail of the pages it showed. */
public final class TabTrails {
    public static final int NONE = -1000000, BAD = -1000001, STATE = -1000002, FULL = -1000003;

    private static final int FINDINGS = -1000010, FAULTS = -1000100;
    private static final int NO_FINDING = 0, NULL_FOUND = 1, PLACE_FOUND = 2, KIND_FOUND = 3, SIZE_FOUND = 4, STORE_FOUND = 5;

    private static final int MOST_ROWS = 8, MOST_ITEMS = 40, MOST_BYTES = 80;
    private static final int LEAST_PAGES = 2, MOST_PAGES = 8, MOST_LINKS = 3, MOST_TABS = 5, MOST_CLOSED = 3;
    private static final int LONG_TRAIL = 6, SHORT_TRAIL = 3, KIOSK_TRAIL = 3;
    private static final int MOST_VISITS = 999, MOST_ACTS = 24, MOST_IMAGES = 2;
    private static final int MOST_STEPS = 60, MOST_WAY_STEPS = 12, MOST_CHANCE_STEPS = 8, MOST_SHARED = 999;
    private static final int MOST_TOLD = 12, MOST_SEED = 999999, MOST_PRESSES = 4;

    private static final int TAB = 0, PLAIN = 1, SHORT = 2, PINNED = 3, GUEST = 4, KIOSK = 5;
    /** For each kind the nearest kind that it is, too. */
    private static final int[] WIDER_KIND = {-1, TAB, PLAIN, PLAIN, TAB, GUEST};

    private static final int PRESS_BACK = 0, PRESS_FORWARD = 1, PRESS_LINK = 2, PRESSES = 5;

    private final Row[] rows = new Row[MOST_ROWS];
    private final Reader reader = new Reader();
    private final Web pages = new Web();
    private final Desk desk = new Desk();
    private final History history = new History();
    private final Image[] images = new Image[MOST_IMAGES];
    private final Foretelling foretelling = new Foretelling();
    private final Asking asking = new Asking();
    private int finding = NO_FINDING;

    public TabTrails() {
        for (int i = 0; i < rows.length; i++) {
            rows[i] = new Row();
        }
        for (int i = 0; i < images.length; i++) {
            images[i] = new Image();
        }
    }

    // ---- rows

    public int row(int row, int lane, int n) {
        if (!isRow(row) || lane < Row.BYTES || lane > Row.INTS || n > MOST_ITEMS) {
            return BAD;
        }
        if (n < 0) {
            return found(SIZE_FOUND);
        }
        finding = NO_FINDING;
        rows[row].make(lane, n);
        return n;
    }

    public int set(int row, int i, int v) {
        if (!isRow(row)) {
            return BAD;
        }
        Row target = rows[row];
        if (!target.there) {
            return found(NULL_FOUND);
        }
        if (!target.hasPlaces(i, 1)) {
            return found(PLACE_FOUND);
        }
        finding = NO_FINDING;
        return target.put(i, v);
    }

    public int copy(int a, int i, int b, int j, int n) {
        if (!isRow(a) || !isRow(b)) {
            return BAD;
        }
        Row source = rows[a];
        Row target = rows[b];
        if (!source.there || !target.there) {
            return found(NULL_FOUND);
        }
        if (source.lane != target.lane) {
            return found(STORE_FOUND);
        }
        if (!source.hasPlaces(i, n) || !target.hasPlaces(j, n)) {
            return found(PLACE_FOUND);
        }
        finding = NO_FINDING;
        System.arraycopy(source.items, i, target.items, j, n);
        return n;
    }

    public int drop(int row) {
        if (!isRow(row)) {
            return BAD;
        }
        if (!rows[row].there) {
            return found(NULL_FOUND);
        }
        finding = NO_FINDING;
        rows[row].there = false;
        return rows[row].size;
    }

    // ---- webs, acts

    public int feed(int letter) {
        if (letter < 0 || letter > 255) {
            return BAD;
        }
        return reader.put(letter) ? reader.length : FULL;
    }

    public int web() {
        boolean faultless = reader.readTape();
        reader.length = 0;
        if (!faultless) {
            return FAULTS - reader.faultPlace;
        }
        pages.become(reader.pages);
        desk.become(reader.desk);
        history.forget();
        return desk.tabs;
    }

    public int fault() {
        return reader.faultNumber;
    }

    public int follow(int j) {
        if (!stands()) {
            return STATE;
        }
        if (!isLinkNumber(j)) {
            return BAD;
        }
        history.prepare(desk);
        return actDone(desk.followLink(pages, j)) ? desk.shownPage() : STATE;
    }

    public int back() {
        history.prepare(desk);
        return actDone(desk.stepBack()) ? desk.shownPage() : STATE;
    }

    public int forward() {
        history.prepare(desk);
        return actDone(desk.stepForward()) ? desk.shownPage() : STATE;
    }

    public int select(int tab) {
        if (!desk.hasTab(tab)) {
            return BAD;
        }
        int before = desk.now;
        history.prepare(desk);
        return actDone(desk.selectTab(tab)) ? before : STATE;
    }

    public int open(int page) {
        if (!pages.hasPage(page)) {
            return BAD;
        }
        history.prepare(desk);
        return actDone(desk.openPage(page)) ? desk.tabs : STATE;
    }

    public int close() {
        history.prepare(desk);
        return actDone(desk.closeNow()) ? desk.now : STATE;
    }

    public int again() {
        history.prepare(desk);
        return actDone(desk.reopen()) ? desk.tabs : STATE;
    }

    public int undo() {
        return history.takeBack(desk) ? history.acts : STATE;
    }

    public int tab(int tab, int what) {
        if (!desk.hasTab(tab)) {
            return BAD;
        }
        Tab asked = desk.row[tab];
        switch (what) {
            case 0: return asked.shownPage();
            case 1: return asked.home;
            case 2: return asked.length;
            case 3: return asked.shown;
            default: return BAD;
        }
    }

    public int trail(int tab, int k) {
        if (!desk.hasTab(tab) || k < 0) {
            return BAD;
        }
        Tab asked = desk.row[tab];
        return k < asked.length ? asked.trail[k] : NONE;
    }

    public int page(int page, int what) {
        if (!pages.hasPage(page) || what < 0 || what > MOST_LINKS + 1) {
            return BAD;
        }
        if (what == 0) {
            return pages.linksOf(page);
        }
        return what <= MOST_LINKS ? pages.target(page, what - 1) : desk.visits[page];
    }

    // ---- foretold

    public int walk(int n, int j) {
        if (!stands()) {
            return STATE;
        }
        if (n < 0 || n > MOST_STEPS || !isLinkNumber(j)) {
            return BAD;
        }
        return pages.walkedTo(desk.shownPage(), n, j);
    }

    public int far(int from, int to) {
        if (!pages.hasPage(from) || !pages.hasPage(to)) {
            return BAD;
        }
        return pages.distance(from, to);
    }

    public int round(int page) {
        return pages.hasPage(page) ? pages.circle(page) : BAD;
    }

    public int to(int page, int k) {
        if (!pages.hasPage(page) || k < -1) {
            return BAD;
        }
        int fewest = foretelling.fewestPresses(pages, desk, page);
        if (fewest == NONE || k == -1) {
            return fewest;
        }
        return k < fewest ? foretelling.presses[k] : NONE;
    }

    public int ways(int page, int n) {
        if (!pages.hasPage(page) || n < 0 || n > MOST_WAY_STEPS) {
            return BAD;
        }
        foretelling.countWays(pages, desk.shownPage(), n);
        return foretelling.amounts[page];
    }

    public int share(int page, int n) {
        if (!pages.hasPage(page) || n < 0 || n > MOST_SHARED) {
            return BAD;
        }
        return desk.shareOf(page, n);
    }

    public int fits(int page, int row, int i, int n, int what) {
        if (!pages.hasPage(page) || !isRow(row) || n < 1 || n > MOST_TOLD || what < 0 || what > 3) {
            return BAD;
        }
        Row told = rows[row];
        if (!told.there) {
            return found(NULL_FOUND);
        }
        if (!told.hasPlaces(i, n)) {
            return found(PLACE_FOUND);
        }
        finding = NO_FINDING;
        foretelling.hear(told, i, n);
        switch (what) {
            case 0: return foretelling.fittingKinds(pages, desk);
            case 1: return foretelling.fittingStarts(pages, desk);
            case 2: return foretelling.fittingLeads(pages, desk, page);
            default: return foretelling.fittingHomes(pages, desk);
        }
    }

    public int chance(int page, int n, int what) {
        if (!pages.hasPage(page) || n < 0 || n > MOST_CHANCE_STEPS || what < 0 || what > 1) {
            return BAD;
        }
        int whole = foretelling.weighWays(pages, desk.shownPage(), n);
        int part = foretelling.amounts[page];
        int divisor = commonDivisor(part, whole);
        if (divisor <= 0) {
            return BAD;
        }
        return what == 0 ? part / divisor : whole / divisor;
    }

    public int drawn(int n, int seed, int what) {
        if (!stands()) {
            return STATE;
        }
        if (n < 0 || n > MOST_STEPS || seed < 1 || seed > MOST_SEED || what < 0 || what > 1) {
            return BAD;
        }
        int visited = foretelling.spendEvening(pages, desk, n, seed);
        return what == 0 ? visited : foretelling.evening.shownPage();
    }

    public int image(int k) {
        if (k < 0 || k >= images.length) {
            return BAD;
        }
        if (!stands()) {
            return STATE;
        }
        images[k].keep(pages, desk);
        return 1;
    }

    public int restore(int k) {
        if (k < 0 || k >= images.length) {
            return BAD;
        }
        if (!images[k].kept) {
            return STATE;
        }
        pages.become(images[k].pages);
        desk.become(images[k].desk);
        history.forget();
        return 1;
    }

    // ---- asked

    public int kind(int tab) {
        return desk.hasTab(tab) ? desk.row[tab].sort : BAD;
    }

    public int as(int tab, int kind) {
        if (!desk.hasTab(tab) || kind < TAB || kind > KIOSK) {
            return BAD;
        }
        if (!desk.row[tab].isOf(kind)) {
            return found(KIND_FOUND);
        }
        finding = NO_FINDING;
        return tab;
    }

    public int ask(int tab, int what) {
        if (!desk.hasTab(tab) || what < 0 || what > 1) {
            return BAD;
        }
        return asking.answer(desk.row[tab], tab, what);
    }

    public int trace(int i) {
        return i >= 0 && i < asking.begun ? asking.numbers[i] : NONE;
    }

    public int count(int what) {
        switch (what) {
            case 0: return rowsThere();
            case 1: return pages.size;
            case 2: return desk.tabs;
            case 3: return desk.now;
            case 4: return desk.shownPage();
            case 5: return desk.closedTabs;
            case 6: return desk.allVisits();
            case 7: return history.acts;
            case 8: return reader.length;
            default: return BAD;
        }
    }

    public int status() {
        return finding;
    }

    private int found(int number) {
        finding = number;
        return FINDINGS - number;
    }

    /** What an act changed can be undone from now on; a refused act leaves nothing to undo. */
    private boolean actDone(boolean done) {
        if (done) {
            history.commit();
        }
        return done;
    }

    private boolean stands() {
        return pages.size > 0;
    }

    private int rowsThere() {
        int there = 0;
        for (int i = 0; i < rows.length; i++) {
            if (rows[i].there) {
                there++;
            }
        }
        return there;
    }

    private static boolean isRow(int row) {
        return row >= 0 && row < MOST_ROWS;
    }

    private static boolean isLinkNumber(int j) {
        return j >= 0 && j < MOST_LINKS;
    }

    private static int commonDivisor(int a, int b) {
        int x = a;
        int y = b;
        // Numbers of 31 bits need fewer than 64 steps.
        for (int step = 0; step < 64 && y != 0; step++) {
            int rest = x % y;
            x = y;
            y = rest;
        }
        return x;
    }

    /** A row of numbers of one lane, or one that is missing. */
    private static final class Row {
        static final int BYTES = 0, SHORTS = 1, INTS = 2;

        final int[] items = new int[MOST_ITEMS];
        boolean there = false;
        int lane = BYTES;
        int size = 0;

        void make(int newLane, int newSize) {
            there = true;
            lane = newLane;
            size = newSize;
            for (int i = 0; i < items.length; i++) {
                items[i] = 0;
            }
        }

        /** Written as differences, since i + n could wrap around. */
        boolean hasPlaces(int i, int n) {
            return i >= 0 && n >= 0 && n <= size && i <= size - n;
        }

        int put(int i, int v) {
            int kept = lane == BYTES ? (byte) v : lane == SHORTS ? (short) v : v;
            if (i >= 0 && i < items.length) {
                items[i] = kept;
            }
            return kept;
        }
    }

    /** The pages and their links; no pages: there is no web. */
    private static final class Web {
        final int[] linkCounts = new int[MOST_PAGES];
        final int[] targets = new int[MOST_PAGES * MOST_LINKS];
        int size = 0;

        void become(Web other) {
            size = other.size;
            System.arraycopy(other.linkCounts, 0, linkCounts, 0, MOST_PAGES);
            System.arraycopy(other.targets, 0, targets, 0, MOST_PAGES * MOST_LINKS);
        }

        void begin(int newSize) {
            size = newSize;
            for (int p = 0; p < MOST_PAGES; p++) {
                linkCounts[p] = 0;
            }
        }

        boolean hasPage(int page) {
            return page >= 0 && page < size && page < MOST_PAGES;
        }

        int linksOf(int page) {
            return hasPage(page) ? linkCounts[page] : 0;
        }

        int target(int page, int j) {
            return j >= 0 && j < linksOf(page) ? targets[page * MOST_LINKS + j] : NONE;
        }

        void addLink(int page, int to) {
            if (hasPage(page) && linkCounts[page] < MOST_LINKS) {
                targets[page * MOST_LINKS + linkCounts[page]] = to;
                linkCounts[page]++;
            }
        }

        void turnFirstLink(int page, int to) {
            if (hasPage(page)) {
                targets[page * MOST_LINKS] = to;
            }
        }

        int walkedTo(int start, int steps, int j) {
            int at = start;
            for (int step = 0; step < steps; step++) {
                at = target(at, Math.min(j, linksOf(at) - 1));
            }
            return at;
        }

        int distance(int from, int to) {
            int seen = 1 << from;
            for (int steps = 0; steps < size; steps++) {
                if ((seen >> to & 1) != 0) {
                    return steps;
                }
                seen = withNeighbours(seen);
            }
            return NONE;
        }

        int circle(int page) {
            int bits = 0;
            for (int other = 0; other < size; other++) {
                if (distance(page, other) != NONE && distance(other, page) != NONE) {
                    bits |= 1 << other;
                }
            }
            return bits;
        }

        private int withNeighbours(int bits) {
            int wider = bits;
            for (int p = 0; p < size; p++) {
                for (int j = 0; j < linksOf(p); j++) {
                    if ((bits >> p & 1) != 0) {
                        wider |= 1 << target(p, j);
                    }
                }
            }
            return wider;
        }
    }

    /** A tab of a kind with its trail. */
    private static final class Tab {
        final int[] trail = new int[LONG_TRAIL];
        int sort = PLAIN;
        int home = 0;
        int length = 1;
        int shown = 0;

        void begin(int newSort, int page) {
            sort = newSort;
            home = page;
            goHome();
        }

        void become(Tab other) {
            sort = other.sort;
            home = other.home;
            length = other.length;
            shown = other.shown;
            System.arraycopy(other.trail, 0, trail, 0, LONG_TRAIL);
        }

        boolean isOf(int kind) {
            int wider = sort;
            for (int step = 0; step < WIDER_KIND.length && wider >= 0 && wider < WIDER_KIND.length; step++) {
                if (wider == kind) {
                    return true;
                }
                wider = WIDER_KIND[wider];
            }
            return false;
        }

        int shownPage() {
            return shown >= 0 && shown < LONG_TRAIL ? trail[shown] : NONE;
        }

        void showInstead(int page) {
            if (shown >= 0 && shown < LONG_TRAIL) {
                trail[shown] = page;
            }
        }

        boolean stepBack() {
            if (sort == KIOSK || shown <= 0) {
                return false;
            }
            shown--;
            return true;
        }

        boolean stepForward() {
            if (sort == KIOSK || shown + 1 >= length) {
                return false;
            }
            shown++;
            return true;
        }

        /** What a followed link does to the trail of a tab that is not pinned. */
        void moveOn(int page) {
            length = shown + 1;
            if (sort == KIOSK && length >= KIOSK_TRAIL) {
                goHome();
                return;
            }
            // Forgetting ahead of adding leaves the same trail and needs no seventh place.
            if (length >= (sort == SHORT ? SHORT_TRAIL : LONG_TRAIL)) {
                forgetFirst();
            }
            if (length >= 0 && length < LONG_TRAIL) {
                trail[length] = page;
                shown = length;
                length++;
            }
        }

        /** A press as the one now takes it: behind a pinned tab's link stands the tab that it opened. */
        boolean press(Web web, int press, boolean room) {
            if (press == PRESS_BACK) {
                return stepBack();
            }
            if (press == PRESS_FORWARD) {
                return stepForward();
            }
            int page = web.target(shownPage(), press - PRESS_LINK);
            if (page == NONE || sort == PINNED && !room) {
                return false;
            }
            if (sort == PINNED) {
                begin(PLAIN, page);
            } else {
                moveOn(page);
            }
            return true;
        }

        private void goHome() {
            trail[0] = home;
            length = 1;
            shown = 0;
        }

        private void forgetFirst() {
            for (int k = 1; k < LONG_TRAIL; k++) {
                trail[k - 1] = trail[k];
            }
            length--;
        }
    }

    /** The tabs in a row, the closed ones, and how often pages were visited: all that acts change. */
    private static final class Desk {
        final Tab[] row = new Tab[MOST_TABS];
        final Tab[] closed = new Tab[MOST_CLOSED];
        final int[] visits = new int[MOST_PAGES];
        int tabs = 0;
        int now = 0;
        int closedTabs = 0;

        Desk() {
            for (int i = 0; i < row.length; i++) {
                row[i] = new Tab();
            }
            for (int i = 0; i < closed.length; i++) {
                closed[i] = new Tab();
            }
        }

        void become(Desk other) {
            tabs = other.tabs;
            now = other.now;
            closedTabs = other.closedTabs;
            for (int i = 0; i < tabs && i < MOST_TABS; i++) {
                row[i].become(other.row[i]);
            }
            for (int i = 0; i < closedTabs && i < MOST_CLOSED; i++) {
                closed[i].become(other.closed[i]);
            }
            System.arraycopy(other.visits, 0, visits, 0, MOST_PAGES);
        }

        void clear() {
            tabs = 0;
            now = 0;
            closedTabs = 0;
            for (int p = 0; p < MOST_PAGES; p++) {
                visits[p] = 0;
            }
        }

        boolean hasTab(int tab) {
            return tab >= 0 && tab < tabs && tab < MOST_TABS;
        }

        boolean hasRoom() {
            return tabs < MOST_TABS;
        }

        int shownPage() {
            return hasTab(now) ? row[now].shownPage() : 0;
        }

        boolean followLink(Web web, int j) {
            if (!hasTab(now)) {
                return false;
            }
            int page = web.target(row[now].shownPage(), j);
            if (page == NONE) {
                return false;
            }
            if (row[now].sort != PINNED) {
                row[now].moveOn(page);
            } else if (hasRoom()) {
                addTab(now + 1).begin(PLAIN, page);
            } else {
                return false;
            }
            visit(shownPage());
            return true;
        }

        boolean stepBack() {
            return hasTab(now) && row[now].stepBack();
        }

        boolean stepForward() {
            return hasTab(now) && row[now].stepForward();
        }

        boolean selectTab(int tab) {
            if (!hasTab(tab) || tab == now) {
                return false;
            }
            now = tab;
            return true;
        }

        boolean openPage(int page) {
            if (!hasRoom()) {
                return false;
            }
            addTab(tabs).begin(PLAIN, page);
            visit(page);
            return true;
        }

        boolean closeNow() {
            if (tabs < 2 || !hasTab(now)) {
                return false;
            }
            if (!row[now].isOf(GUEST)) {
                keepClosed(row[now]);
            }
            Tab gone = row[now];
            for (int i = now; i + 1 < tabs && i + 1 < MOST_TABS; i++) {
                row[i] = row[i + 1];
            }
            tabs--;
            row[tabs] = gone;
            now = Math.min(now, tabs - 1);
            return true;
        }

        boolean reopen() {
            if (closedTabs < 1 || closedTabs > MOST_CLOSED || !hasRoom()) {
                return false;
            }
            closedTabs--;
            addTab(tabs).become(closed[closedTabs]);
            return true;
        }

        int allVisits() {
            int all = 0;
            for (int p = 0; p < MOST_PAGES; p++) {
                all += visits[p];
            }
            return all;
        }

        int shareOf(int page, int n) {
            int all = allVisits();
            if (page < 0 || page >= MOST_PAGES || visits[page] == 0 || all <= 0) {
                return 0;
            }
            int over = n;
            int visitedAhead = 0;
            for (int p = 0; p < MOST_PAGES; p++) {
                over -= n * visits[p] / all;
                if (p < page && visits[p] > 0) {
                    visitedAhead++;
                }
            }
            return n * visits[page] / all + (visitedAhead < over ? 1 : 0);
        }

        /** A tab at a place of a row that has room, now; what it held before must be overwritten. */
        private Tab addTab(int place) {
            int last = Math.max(0, Math.min(tabs, MOST_TABS - 1));
            int at = Math.max(0, Math.min(place, last));
            Tab fresh = row[last];
            for (int i = last; i > at; i--) {
                row[i] = row[i - 1];
            }
            row[at] = fresh;
            tabs = last + 1;
            now = at;
            return fresh;
        }

        private void keepClosed(Tab tab) {
            if (closedTabs >= MOST_CLOSED) {
                Tab oldest = closed[0];
                for (int i = 1; i < MOST_CLOSED; i++) {
                    closed[i - 1] = closed[i];
                }
                closed[MOST_CLOSED - 1] = oldest;
                closedTabs = MOST_CLOSED - 1;
            }
            closed[closedTabs].become(tab);
            closedTabs++;
        }

        private void visit(int page) {
            if (page >= 0 && page < MOST_PAGES && visits[page] < MOST_VISITS) {
                visits[page]++;
            }
        }
    }

    /** What stood ahead of each act that can be undone, in a ring with one place more to prepare the next. */
    private static final class History {
        private static final int PLACES = MOST_ACTS + 1;

        final Desk[] desks = new Desk[PLACES];
        int next = 0;
        int acts = 0;

        History() {
            for (int i = 0; i < desks.length; i++) {
                desks[i] = new Desk();
            }
        }

        void forget() {
            acts = 0;
        }

        void prepare(Desk desk) {
            desks[next].become(desk);
        }

        void commit() {
            next = (next + 1) % PLACES;
            acts = Math.min(acts + 1, MOST_ACTS);
        }

        boolean takeBack(Desk desk) {
            if (acts < 1) {
                return false;
            }
            acts--;
            next = (next + PLACES - 1) % PLACES;
            desk.become(desks[next]);
            return true;
        }
    }

    /** A web as it was kept. */
    private static final class Image {
        final Web pages = new Web();
        final Desk desk = new Desk();
        boolean kept = false;

        void keep(Web web, Desk shown) {
            pages.become(web);
            desk.become(shown);
            kept = true;
        }
    }

    /** The tape, and what is read from it: a web that stands only if no fault was met. */
    private static final class Reader {
        private static final int END = -1, NUMBER = -2, LONG_NUMBER = -3;
        private static final int WRONG_TOKEN = 1, WRONG_NUMBER = 2, NO_ROOM = 3, MOST_FIGURES = 2;

        final int[] tape = new int[MOST_BYTES];
        final Web pages = new Web();
        final Desk desk = new Desk();
        int length = 0;
        int faultNumber = 0;
        int faultPlace = 0;
        /** The token that comes next: its first byte's place, what it is (a letter or sign is itself), a number's value. */
        private int start = 0;
        private int token = END;
        private int value = 0;
        /** Where the bytes behind that token begin. */
        private int at = 0;
        private int number = 0;

        boolean put(int letter) {
            if (length < 0 || length >= MOST_BYTES) {
                return false;
            }
            tape[length] = letter;
            length++;
            return true;
        }

        boolean readTape() {
            pages.begin(0);
            desk.clear();
            at = 0;
            advance();
            return readLaw() && readPages() && readTabs();
        }

        private boolean readLaw() {
            if (!take('w') || !takeNumber(LEAST_PAGES, MOST_PAGES)) {
                return false;
            }
            pages.begin(number);
            return take(';');
        }

        private boolean readPages() {
            for (int page = 0; page < pages.size; page++) {
                if (!take('l') || !readLinks(page) || !take(';')) {
                    return false;
                }
            }
            return true;
        }

        private boolean readLinks(int page) {
            for (int j = 0; j < MOST_LINKS; j++) {
                if (j > 0 && token != ',') {
                    return true;
                }
                if (j > 0 && !take(',') || !takeNumber(0, pages.size - 1)) {
                    return false;
                }
                pages.addLink(page, number);
            }
            return true;
        }

        private boolean readTabs() {
            for (int i = 0; i <= MOST_TABS; i++) {
                if (i > 0 && token == END) {
                    return true;
                }
                if (!readTab()) {
                    return false;
                }
            }
            return true;
        }

        private boolean readTab() {
            int sort = sortOf(token);
            if (sort == NONE) {
                return wrong(WRONG_TOKEN);
            }
            if (!desk.hasRoom()) {
                return wrong(NO_ROOM);
            }
            advance();
            if (!takeNumber(0, pages.size - 1)) {
                return false;
            }
            desk.row[desk.tabs].begin(sort, number);
            desk.tabs++;
            return take(';');
        }

        private static int sortOf(int letter) {
            switch (letter) {
                case 'p': return PLAIN;
                case 's': return SHORT;
                case 'n': return PINNED;
                case 'g': return GUEST;
                case 'k': return KIOSK;
                default: return NONE;
            }
        }

        private boolean take(int wanted) {
            if (token != wanted) {
                return wrong(WRONG_TOKEN);
            }
            advance();
            return true;
        }

        private boolean takeNumber(int least, int most) {
            if (token != NUMBER) {
                return wrong(WRONG_TOKEN);
            }
            if (value < least || value > most) {
                return wrong(WRONG_NUMBER);
            }
            number = value;
            advance();
            return true;
        }

        private boolean wrong(int fault) {
            faultNumber = fault;
            faultPlace = start;
            return false;
        }

        private void advance() {
            start = at;
            value = 0;
            for (int step = 0; step < MOST_BYTES && isFigure(byteAt(at)); step++) {
                // Of a longer run the value is never asked for; the rest keeps it from growing.
                value = (value * 10 + byteAt(at) - '0') % 100;
                at++;
            }
            if (at > start) {
                token = at - start <= MOST_FIGURES ? NUMBER : LONG_NUMBER;
                return;
            }
            // A byte that is no token needs no mark of its own: it can stand nowhere, either.
            token = byteAt(at);
            at++;
        }

        private int byteAt(int place) {
            return place >= 0 && place < length && place < MOST_BYTES ? tape[place] : END;
        }

        private static boolean isFigure(int letter) {
            return letter >= '0' && letter <= '9';
        }
    }

    /** Rows that foretold calls work on, so that the web itself stays as it is. */
    private static final class Foretelling {
        private static final int SIXTHS = 6;

        final int[] presses = new int[MOST_PRESSES];
        final int[] amounts = new int[MOST_PAGES];
        final Desk evening = new Desk();
        private final int[] nextAmounts = new int[MOST_PAGES];
        private final Tab[] steps = new Tab[MOST_PRESSES + 1];
        private final Tab guess = new Tab();
        private final Web turned = new Web();
        private final int[] told = new int[MOST_TOLD];
        private int toldPages = 0;

        Foretelling() {
            for (int i = 0; i < steps.length; i++) {
                steps[i] = new Tab();
            }
        }

        /** The fewest presses to a page, which stand in presses then; rows are tried by length, then by numbers. */
        int fewestPresses(Web web, Desk desk, int page) {
            if (!desk.hasTab(desk.now)) {
                return NONE;
            }
            steps[0].become(desk.row[desk.now]);
            for (int length = 0; length <= MOST_PRESSES; length++) {
                if (pressedTo(web, page, desk.hasRoom(), 0, length)) {
                    return length;
                }
            }
            return NONE;
        }

        private boolean pressedTo(Web web, int page, boolean room, int depth, int length) {
            if (depth < 0 || depth >= length || depth >= MOST_PRESSES) {
                return depth >= 0 && depth <= MOST_PRESSES && steps[depth].shownPage() == page;
            }
            for (int press = 0; press < PRESSES; press++) {
                steps[depth + 1].become(steps[depth]);
                presses[depth] = press;
                if (steps[depth + 1].press(web, press, room) && pressedTo(web, page, room, depth + 1, length)) {
                    return true;
                }
            }
            return false;
        }

        void countWays(Web web, int start, int n) {
            beginAmounts(start);
            for (int step = 0; step < n; step++) {
                spreadAmounts(web, false);
            }
        }

        /** Each step splits a page's weight, six times as much, among its links: what all weigh then. */
        int weighWays(Web web, int start, int n) {
            beginAmounts(start);
            int whole = 1;
            for (int step = 0; step < n; step++) {
                spreadAmounts(web, true);
                whole *= SIXTHS;
            }
            return whole;
        }

        private void beginAmounts(int start) {
            for (int p = 0; p < MOST_PAGES; p++) {
                amounts[p] = p == start ? 1 : 0;
            }
        }

        private void spreadAmounts(Web web, boolean split) {
            for (int p = 0; p < MOST_PAGES; p++) {
                nextAmounts[p] = 0;
            }
            for (int p = 0; p < web.size && p < MOST_PAGES; p++) {
                int links = web.linksOf(p);
                int each = split && links > 0 ? amounts[p] * (SIXTHS / links) : amounts[p];
                for (int j = 0; j < links; j++) {
                    int target = web.target(p, j);
                    if (web.hasPage(target)) {
                        nextAmounts[target] += each;
                    }
                }
            }
            System.arraycopy(nextAmounts, 0, amounts, 0, MOST_PAGES);
        }

        void hear(Row row, int i, int n) {
            toldPages = row.hasPlaces(i, n) ? Math.min(n, MOST_TOLD) : 0;
            for (int k = 0; k < toldPages; k++) {
                told[k] = row.items[i + k];
            }
        }

        int fittingKinds(Web web, Desk desk) {
            int bits = 0;
            for (int kind = PLAIN; kind <= KIOSK; kind++) {
                guessNow(desk);
                guess.sort = kind;
                bits |= bitIfFits(web, desk, kind);
            }
            return bits;
        }

        int fittingStarts(Web web, Desk desk) {
            int bits = 0;
            for (int page = 0; page < web.size; page++) {
                guessNow(desk);
                guess.showInstead(page);
                bits |= bitIfFits(web, desk, page);
            }
            return bits;
        }

        int fittingLeads(Web web, Desk desk, int from) {
            int bits = 0;
            turned.become(web);
            for (int page = 0; page < web.size; page++) {
                guessNow(desk);
                turned.turnFirstLink(from, page);
                bits |= bitIfFits(turned, desk, page);
            }
            return bits;
        }

        int fittingHomes(Web web, Desk desk) {
            int bits = 0;
            for (int page = 0; page < web.size; page++) {
                guessNow(desk);
                guess.home = page;
                bits |= bitIfFits(web, desk, page);
            }
            return bits;
        }

        private void guessNow(Desk desk) {
            if (desk.hasTab(desk.now)) {
                guess.become(desk.row[desk.now]);
            }
        }

        /** A link that cannot be followed does nothing: what is shown stays, and is compared all the same. */
        private int bitIfFits(Web web, Desk desk, int bit) {
            for (int k = 0; k < toldPages; k++) {
                guess.press(web, PRESS_LINK, desk.hasRoom());
                if (guess.shownPage() != told[k]) {
                    return 0;
                }
            }
            return 1 << bit;
        }

        /** How often pages were visited in an evening; the desk evening is as it was left then. */
        int spendEvening(Web web, Desk desk, int n, int seed) {
            evening.become(desk);
            long x = seed;
            int visited = 0;
            for (int step = 0; step < n; step++) {
                x = x * 16807L % 2147483647L;
                visited += drawnAct(web, (int) x) ? 1 : 0;
            }
            return visited;
        }

        /** Whether the act that x draws visited a page. */
        private boolean drawnAct(Web web, int x) {
            if (x < 0 || evening.tabs <= 0 || web.size <= 0) {
                return false;
            }
            int act = x % 7;
            switch (act) {
                case 3:
                    evening.stepBack();
                    return false;
                case 4:
                    evening.selectTab(x % evening.tabs);
                    return false;
                case 5:
                    return evening.openPage(x % web.size);
                case 6:
                    evening.closeNow();
                    return false;
                default:
                    return evening.followLink(web, act);
            }
        }
    }

    /** Asks of tabs by bodies, and the trace of the bodies that began. */
    private static final class Asking {
        private static final int MOST_NUMBERS = 16, MOST_DEPTH = 16;
        private static final int ASK_SIZE = 0;
        /** For each kind the body of its own, or of the nearest kind that it is, too. */
        private static final int[] SIZE_BODIES = {10, 11, 12, 11, 13, 14};
        private static final int[] MARK_BODIES = {20, 21, 24, 22, 23, 23};

        final int[] numbers = new int[MOST_NUMBERS];
        int begun = 0;
        private int place = 0;

        int answer(Tab tab, int placeInRow, int what) {
            begun = 0;
            place = placeInRow;
            return body(what == ASK_SIZE ? sizeBody(tab) : markBody(tab), tab, 0);
        }

        private int body(int number, Tab tab, int depth) {
            if (depth >= MOST_DEPTH) {
                return 0;
            }
            leave(number);
            int deeper = depth + 1;
            switch (number) {
                case 10: return tab.length;
                case 11: return body(10, tab, deeper) + body(markBody(tab), tab, deeper);
                case 12: return -body(11, tab, deeper);
                case 13: return body(10, tab, deeper) - 100;
                case 14: return 2 * body(13, tab, deeper);
                case 20: return place;
                case 21: return body(20, tab, deeper) + tab.shownPage();
                case 22: return body(21, tab, deeper) - 1000;
                case 23: return body(20, tab, deeper) - body(sizeBody(tab), tab, deeper);
                case 24: return 2 * body(21, tab, deeper);
                default: return 0;
            }
        }

        private void leave(int number) {
            if (begun >= 0 && begun < MOST_NUMBERS) {
                numbers[begun] = number;
                begun++;
            }
        }

        private static int sizeBody(Tab tab) {
            return tab.sort >= 0 && tab.sort < SIZE_BODIES.length ? SIZE_BODIES[tab.sort] : 10;
        }

        private static int markBody(Tab tab) {
            return tab.sort >= 0 && tab.sort < MARK_BODIES.length ? MARK_BODIES[tab.sort] : 20;
        }
    }
}
