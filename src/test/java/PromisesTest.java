/** For each promise of the document: ordinary inputs, the edges that it names, wrong inputs. */
public final class PromisesTest {
    private static final int NONE = -1000000, BAD = -1000001, STATE = -1000002, FULL = -1000003;
    private static final int NULL = -1000011, PLACE = -1000012, KIND = -1000013, SIZE = -1000014, STORE = -1000015;
    private static final int LEAST = Integer.MIN_VALUE, MOST = Integer.MAX_VALUE;

    /** Page 0 leads to 1, 2; 1 to 2, 0, 3; 2 to 3; 3 to 4, 4; 4 to itself. */
    private static final String PAGES = "w5;l1,2;l2,0,3;l3;l4,4;l4;";
    private static final String ALL_KINDS = PAGES + "p0;s1;n2;g0;k1;";
    /** A ring of four pages, the first of which also leads to itself. */
    private static final String RING = "w4;l1,0;l2;l3;l0;";

    private static final Checks checks = new Checks();
    private static int promise = 0;

    private static void due(String call, long got, long want) {
        checks.due("promise " + promise + ": " + call, got, want);
    }

    /** Calls written as one text, each with the answer due. */
    private static void follows(TabTrails x, int... linksAndPages) {
        for (int i = 0; i < linksAndPages.length; i += 2) {
            due("follow(" + linksAndPages[i] + ") as step " + i / 2, x.follow(linksAndPages[i]), linksAndPages[i + 1]);
        }
    }

    private static void trailIs(TabTrails x, int tab, int... pages) {
        for (int k = 0; k < pages.length; k++) {
            due("trail(" + tab + ", " + k + ")", x.trail(tab, k), pages[k]);
        }
        due("trail(" + tab + ", its end)", x.trail(tab, pages.length), NONE);
        due("tab(" + tab + ", 2)", x.tab(tab, 2), pages.length);
    }

    private static void traceIs(TabTrails x, int... numbers) {
        for (int i = 0; i < numbers.length; i++) {
            due("trace(" + i + ")", x.trace(i), numbers[i]);
        }
        due("trace(its end)", x.trace(numbers.length), NONE);
    }

    private static void countsAre(TabTrails x, int... counts) {
        for (int what = 0; what < counts.length; what++) {
            due("count(" + what + ")", x.count(what), counts[what]);
        }
    }

    private static void setAll(TabTrails x, int row, int... items) {
        x.row(row, 2, items.length);
        for (int i = 0; i < items.length; i++) {
            x.set(row, i, items[i]);
        }
    }

    private static void newObject() {
        promise = 1;
        TabTrails x = new TabTrails();
        countsAre(x, 0, 0, 0, 0, 0, 0, 0, 0, 0);
        due("status()", x.status(), 0);
        due("fault()", x.fault(), 0);
        due("page(0, 0)", x.page(0, 0), BAD);
        due("follow(0)", x.follow(0), STATE);
        due("drop(7)", x.drop(7), NULL);
        due("restore(0)", x.restore(0), STATE);
        due("restore(1)", x.restore(1), STATE);
        due("trace(0)", x.trace(0), NONE);
    }

    private static void rowPromise() {
        promise = 2;
        TabTrails x = new TabTrails();
        due("row(0, 0, 0)", x.row(0, 0, 0), 0);
        due("row(7, 2, 40)", x.row(7, 2, 40), 40);
        due("row(7, 2, 41)", x.row(7, 2, 41), BAD);
        due("row(8, 2, 1)", x.row(8, 2, 1), BAD);
        due("row(-1, 2, 1)", x.row(-1, 2, 1), BAD);
        due("row(0, 3, 1)", x.row(0, 3, 1), BAD);
        due("row(0, -1, 1)", x.row(0, -1, 1), BAD);
        due("row(0, 3, -1), BAD is ahead of SIZE", x.row(0, 3, -1), BAD);
        due("count(0)", x.count(0), 2);
        due("set(7, 39, 5)", x.set(7, 39, 5), 5);
        due("row(7, 1, -1)", x.row(7, 1, -1), SIZE);
        due("row(7, 1, least)", x.row(7, 1, LEAST), SIZE);
        due("set(7, 39, 70000), still of ints", x.set(7, 39, 70000), 70000);
        due("row(7, 2, 3) in place of what is there", x.row(7, 2, 3), 3);
        due("set(7, 3, 1)", x.set(7, 3, 1), PLACE);
        due("count(0)", x.count(0), 2);
        rowIsEmptyAgain();
    }

    private static void rowIsEmptyAgain() {
        TabTrails x = Checks.told(RING + "p1;");
        setAll(x, 0, 2, 3, 0);
        due("fits(0, 0, 0, 1, 1)", x.fits(0, 0, 0, 1, 1), 2);
        x.row(0, 2, 3);
        due("items are 0 at first: fits(0, 0, 0, 1, 1)", x.fits(0, 0, 0, 1, 1), 8);
    }

    private static void setPromise() {
        promise = 3;
        TabTrails x = new TabTrails();
        x.row(0, 0, 2);
        x.row(1, 1, 2);
        x.row(2, 2, 2);
        due("set(0, 0, 127)", x.set(0, 0, 127), 127);
        due("set(0, 0, 128)", x.set(0, 0, 128), -128);
        due("set(0, 1, -129)", x.set(0, 1, -129), 127);
        due("set(0, 1, 511)", x.set(0, 1, 511), -1);
        due("set(1, 0, 32768)", x.set(1, 0, 32768), -32768);
        due("set(1, 0, -32769)", x.set(1, 0, -32769), 32767);
        due("set(1, 1, most)", x.set(1, 1, MOST), -1);
        due("set(2, 0, most)", x.set(2, 0, MOST), MOST);
        due("set(2, 1, least)", x.set(2, 1, LEAST), LEAST);
        due("set(8, 0, 0)", x.set(8, 0, 0), BAD);
        due("set(-1, 0, 0)", x.set(-1, 0, 0), BAD);
        due("set(3, -1, 0)", x.set(3, -1, 0), NULL);
        due("set(0, 2, 0)", x.set(0, 2, 0), PLACE);
        due("set(0, -1, 0)", x.set(0, -1, 0), PLACE);
        due("set(0, most, 0)", x.set(0, MOST, 0), PLACE);
    }

    private static void copyPromise() {
        promise = 4;
        TabTrails x = Checks.told(RING + "p0;");
        setAll(x, 0, 1, 2, 3, 0);
        x.row(1, 2, 4);
        x.row(2, 1, 4);
        due("copy(0, 0, 8, 0, 1)", x.copy(0, 0, 8, 0, 1), BAD);
        due("copy(-1, 0, 0, 0, 1)", x.copy(-1, 0, 0, 0, 1), BAD);
        due("copy(0, 0, 3, 0, -1)", x.copy(0, 0, 3, 0, -1), NULL);
        due("copy(3, 0, 2, 0, 9)", x.copy(3, 0, 2, 0, 9), NULL);
        due("copy(0, -1, 2, 0, 1), STORE is ahead of PLACE", x.copy(0, -1, 2, 0, 1), STORE);
        due("copy(0, 0, 2, 0, 0), STORE also of none", x.copy(0, 0, 2, 0, 0), STORE);
        due("copy(0, -1, 1, 0, 1)", x.copy(0, -1, 1, 0, 1), PLACE);
        due("copy(0, 0, 1, -1, 1)", x.copy(0, 0, 1, -1, 1), PLACE);
        due("copy(0, 0, 1, 0, -1)", x.copy(0, 0, 1, 0, -1), PLACE);
        due("copy(0, 1, 1, 0, 4)", x.copy(0, 1, 1, 0, 4), PLACE);
        due("copy(0, 0, 1, 1, 4)", x.copy(0, 0, 1, 1, 4), PLACE);
        due("copy(0, most, 1, 0, 1)", x.copy(0, MOST, 1, 0, 1), PLACE);
        due("copy(0, 1, 1, 1, most)", x.copy(0, 1, 1, 1, MOST), PLACE);
        due("copy(0, 4, 1, 4, 0)", x.copy(0, 4, 1, 4, 0), 0);
        due("copy(0, 5, 1, 4, 0)", x.copy(0, 5, 1, 4, 0), PLACE);
        due("nothing was copied: fits(0, 1, 0, 4, 1)", x.fits(0, 1, 0, 4, 1), 0);
        due("copy(0, 0, 1, 0, 4)", x.copy(0, 0, 1, 0, 4), 4);
        due("fits(0, 1, 0, 4, 1)", x.fits(0, 1, 0, 4, 1), 1);
        due("copy(0, 0, 0, 1, 3) onto itself", x.copy(0, 0, 0, 1, 3), 3);
        due("1 1 2 3 as they were ahead: fits(0, 0, 1, 3, 1)", x.fits(0, 0, 1, 3, 1), 1);
        due("copy(1, 1, 1, 0, 3) onto itself", x.copy(1, 1, 1, 0, 3), 3);
        due("2 3 0 0: fits(0, 1, 0, 3, 1)", x.fits(0, 1, 0, 3, 1), 2);
    }

    private static void dropPromise() {
        promise = 5;
        TabTrails x = new TabTrails();
        x.row(3, 1, 17);
        x.row(4, 1, 0);
        due("drop(3)", x.drop(3), 17);
        due("drop(3)", x.drop(3), NULL);
        due("drop(4)", x.drop(4), 0);
        due("drop(8)", x.drop(8), BAD);
        due("drop(-1)", x.drop(-1), BAD);
        due("count(0)", x.count(0), 0);
        due("set(3, 0, 0)", x.set(3, 0, 0), NULL);
        due("row(3, 0, 2)", x.row(3, 0, 2), 2);
        due("drop(3)", x.drop(3), 2);
    }

    private static void feedPromise() {
        promise = 6;
        TabTrails x = new TabTrails();
        due("feed(-1)", x.feed(-1), BAD);
        due("feed(256)", x.feed(256), BAD);
        due("feed(0)", x.feed(0), 1);
        due("feed(255)", x.feed(255), 2);
        for (int i = 3; i <= 80; i++) {
            due("feed(59)", x.feed(59), i);
        }
        due("feed(59)", x.feed(59), FULL);
        due("feed(256), BAD is ahead of FULL", x.feed(256), BAD);
        due("count(8)", x.count(8), 80);
        due("web()", x.web(), -1000100);
        due("feed(59) of a tape that is empty again", x.feed(59), 1);
    }

    private static void faultIs(String tape, int place, int number) {
        TabTrails x = Checks.told("w2;l1;l0;p1;");
        x.follow(0);
        due("web() of " + tape, Checks.read(x, tape), -1000100 - place);
        due("fault() of " + tape, x.fault(), number);
        countsAre(x, 0, 2, 1, 0, 0, 0, 1, 1, 0);
    }

    private static void webPromise() {
        promise = 7;
        TabTrails x = new TabTrails();
        due("web()", Checks.read(x, ALL_KINDS), 5);
        due("count(8)", x.count(8), 0);
        for (int tab = 0; tab < 5; tab++) {
            due("kind", x.kind(tab), tab + 1);
        }
        due("two figures", Checks.read(x, "w02;l01,00,1;l00;p01;"), 1);
        countsAre(x, 0, 2, 1, 0, 1, 0, 0, 0, 0);
        due("the longest web", Checks.read(x, "w8;l0,1,2;l0,1,2;l0,1,2;l0,1,2;l0,1,2;l0,1,2;l0,1,2;l0,1,07;p0;p0;p0;p0;p07;"), 5);
        due("page(7, 3)", x.page(7, 3), 7);
        newWebForgets();
        wrongTokens();
        wrongNumbers();
    }

    private static void newWebForgets() {
        TabTrails x = Checks.told(ALL_KINDS);
        x.follow(0);
        x.select(2);
        x.close();
        due("web() in place of the one before", Checks.read(x, RING + "p2;k3;"), 2);
        countsAre(x, 0, 4, 2, 0, 2, 0, 0, 0, 0);
        due("undo()", x.undo(), STATE);
        due("again()", x.again(), STATE);
        due("trail(0, 1)", x.trail(0, 1), NONE);
        int[] links = {2, 1, 1, 1};
        for (int page = 0; page < 4; page++) {
            due("page(" + page + ", 0)", x.page(page, 0), links[page]);
        }
    }

    private static void wrongTokens() {
        faultIs("", 0, 1);
        faultIs("x", 0, 1);
        faultIs("W2;", 0, 1);
        faultIs(" w2;", 0, 1);
        faultIs("2;", 0, 1);
        faultIs("w", 1, 1);
        faultIs("w;", 1, 1);
        faultIs("w200;", 1, 1);
        faultIs("w002;", 1, 1);
        faultIs("w2", 2, 1);
        faultIs("w2 ;", 2, 1);
        faultIs("w2,", 2, 1);
        faultIs("w2l", 2, 1);
        faultIs("w2;p0;", 3, 1);
        faultIs("w2;l;", 4, 1);
        faultIs("w2;l0,;", 6, 1);
        faultIs("w2;l0,1,0,1;", 9, 1);
        faultIs("w2;l0,1,0,9;", 9, 1);
        faultIs("w2;l0,1,0,", 9, 1);
        faultIs("w2;l0;", 6, 1);
        faultIs("w2;l0;p0;", 6, 1);
        faultIs("w2;l0;l0;", 9, 1);
        faultIs("w2;l0;l0;l0;", 9, 1);
        faultIs("w2;l0;l0;q0;", 9, 1);
        faultIs("w2;l0;l0;p;", 10, 1);
        faultIs("w2;l0;l0;p0", 11, 1);
        faultIs("w2;l0;l0;p0,", 11, 1);
        faultIs("w2;l0;l0;p0;;", 12, 1);
        faultIs("w2;l0;l0;p0;w2;", 12, 1);
        faultIs("w2;l0;l0;p0;" + (char) 240, 12, 1);
        faultIs("w2;l0;l0;p0;p0;p0;p0;p0;l", 24, 1);
        faultIs("w2;l0;l0;p0;p0;p0;p0;p0;0", 24, 1);
    }

    private static void wrongNumbers() {
        faultIs("w0;", 1, 2);
        faultIs("w1;", 1, 2);
        faultIs("w9;", 1, 2);
        faultIs("w99", 1, 2);
        faultIs("w2;l2;", 4, 2);
        faultIs("w2;l0,02;", 6, 2);
        faultIs("w2;l0;l0;k2;", 10, 2);
        faultIs("w2;l0;l0;p0;s99;", 13, 2);
        faultIs("w2;l0;l0;p0;p0;p0;p0;p0;p", 24, 3);
        faultIs("w2;l0;l0;p0;s0;n0;g0;k0;k0;", 24, 3);
        faultIs("w2;l0;l0;p0;p0;p0;p0;p0;g9;", 24, 3);
    }

    private static void faultPromise() {
        promise = 8;
        TabTrails x = new TabTrails();
        due("fault()", x.fault(), 0);
        Checks.read(x, "w9;");
        due("fault()", x.fault(), 2);
        due("web()", Checks.read(x, RING + "p0;"), 1);
        due("fault() is the latest one's, behind a web, too", x.fault(), 2);
        Checks.read(x, "w2;l0;l0;p0;p0;p0;p0;p0;p0;");
        due("fault()", x.fault(), 3);
        x.web();
        due("fault()", x.fault(), 1);
    }

    private static void followPromise() {
        promise = 9;
        TabTrails none = new TabTrails();
        due("follow(3) without a web, STATE is ahead of BAD", none.follow(3), STATE);
        due("follow(-1) without a web", none.follow(-1), STATE);
        TabTrails x = Checks.told(RING + "p0;");
        due("follow(-1)", x.follow(-1), BAD);
        due("follow(3)", x.follow(3), BAD);
        due("follow(2), no such link", x.follow(2), STATE);
        countsAre(x, 0, 4, 1, 0, 0, 0, 0, 0, 0);
        follows(x, 0, 1, 0, 2, 0, 3, 0, 0, 1, 0);
        trailIs(x, 0, 0, 1, 2, 3, 0, 0);
        follows(x, 0, 1);
        trailIs(x, 0, 1, 2, 3, 0, 0, 1);
        due("tab(0, 1)", x.tab(0, 1), 0);
        due("tab(0, 3)", x.tab(0, 3), 5);
        x.back();
        x.back();
        x.back();
        follows(x, 0, 0);
        trailIs(x, 0, 1, 2, 3, 0);
        due("count(6)", x.count(6), 7);
        shortFollows();
        pinnedFollows();
        kioskFollows();
    }

    private static void shortFollows() {
        TabTrails x = Checks.told(RING + "s0;");
        follows(x, 0, 1, 0, 2, 0, 3);
        trailIs(x, 0, 1, 2, 3);
        x.back();
        x.back();
        follows(x, 0, 2);
        trailIs(x, 0, 1, 2);
        due("tab(0, 1)", x.tab(0, 1), 0);
    }

    private static void pinnedFollows() {
        TabTrails x = Checks.told(RING + "p3;n0;g2;");
        x.select(1);
        follows(x, 0, 1);
        countsAre(x, 0, 4, 4, 2, 1, 0, 1, 2, 0);
        due("kind(1)", x.kind(1), 3);
        due("kind(2)", x.kind(2), 1);
        due("kind(3)", x.kind(3), 4);
        due("tab(2, 1)", x.tab(2, 1), 1);
        trailIs(x, 1, 0);
        trailIs(x, 2, 1);
        due("back()", x.back(), STATE);
        x.select(1);
        follows(x, 1, 0);
        due("tab(2, 0), right behind the pinned one", x.tab(2, 0), 0);
        due("tab(3, 0)", x.tab(3, 0), 1);
        x.select(1);
        due("follow(0) with 5 tabs", x.follow(0), STATE);
        due("follow(2)", x.follow(2), STATE);
        due("follow(3)", x.follow(3), BAD);
        due("page(0, 4)", x.page(0, 4), 1);
        due("page(1, 4)", x.page(1, 4), 1);
    }

    private static void kioskFollows() {
        TabTrails x = Checks.told(RING + "k1;");
        follows(x, 0, 2, 0, 3);
        trailIs(x, 0, 1, 2, 3);
        follows(x, 0, 1);
        trailIs(x, 0, 1);
        due("home is visited", x.page(1, 4), 1);
        due("page(0, 4)", x.page(0, 4), 0);
        follows(x, 0, 2);
        trailIs(x, 0, 1, 2);
        TabTrails guest = Checks.told(RING + "g1;");
        follows(guest, 0, 2, 0, 3, 0, 0, 0, 1, 0, 2, 0, 3);
        trailIs(guest, 0, 2, 3, 0, 1, 2, 3);
    }

    private static void backPromise() {
        promise = 10;
        due("back() without a web", new TabTrails().back(), STATE);
        TabTrails x = Checks.told(RING + "p0;k0;");
        due("back()", x.back(), STATE);
        follows(x, 0, 1, 0, 2);
        due("back()", x.back(), 1);
        due("back()", x.back(), 0);
        due("back()", x.back(), STATE);
        due("tab(0, 3)", x.tab(0, 3), 0);
        trailIs(x, 0, 0, 1, 2);
        due("count(6), nothing is visited by it", x.count(6), 2);
        due("count(7)", x.count(7), 4);
        x.select(1);
        follows(x, 0, 1);
        due("back() of a kiosk", x.back(), STATE);
    }

    private static void forwardPromise() {
        promise = 11;
        due("forward() without a web", new TabTrails().forward(), STATE);
        TabTrails x = Checks.told(RING + "p0;k0;");
        due("forward()", x.forward(), STATE);
        follows(x, 0, 1, 0, 2);
        x.back();
        x.back();
        due("forward()", x.forward(), 1);
        due("forward()", x.forward(), 2);
        due("forward()", x.forward(), STATE);
        due("count(6)", x.count(6), 2);
        due("count(7)", x.count(7), 6);
        x.back();
        follows(x, 0, 2);
        due("forward(), what was behind is cut off", x.forward(), STATE);
        x.select(1);
        due("forward() of a kiosk", x.forward(), STATE);
    }

    private static void selectPromise() {
        promise = 12;
        due("select(0) without a web", new TabTrails().select(0), BAD);
        TabTrails x = Checks.told(ALL_KINDS);
        due("select(4)", x.select(4), 0);
        due("select(1)", x.select(1), 4);
        due("select(1)", x.select(1), STATE);
        due("select(5)", x.select(5), BAD);
        due("select(-1)", x.select(-1), BAD);
        countsAre(x, 0, 5, 5, 1, 1, 0, 0, 2, 0);
    }

    private static void openPromise() {
        promise = 13;
        due("open(0) without a web", new TabTrails().open(0), BAD);
        TabTrails x = Checks.told(RING + "k0;g1;n2;");
        due("open(4)", x.open(4), BAD);
        due("open(-1)", x.open(-1), BAD);
        due("open(3)", x.open(3), 4);
        countsAre(x, 0, 4, 4, 3, 3, 0, 1, 1, 0);
        due("kind(3)", x.kind(3), 1);
        due("tab(3, 1)", x.tab(3, 1), 3);
        trailIs(x, 3, 3);
        x.select(0);
        due("open(0), last in the row", x.open(0), 5);
        due("tab(4, 0)", x.tab(4, 0), 0);
        due("open(0) with 5", x.open(0), STATE);
        due("open(4) with 5, BAD is ahead of STATE", x.open(4), BAD);
        due("page(0, 4)", x.page(0, 4), 1);
        due("page(3, 4)", x.page(3, 4), 1);
    }

    private static void closePromise() {
        promise = 14;
        due("close() without a web", new TabTrails().close(), STATE);
        TabTrails x = Checks.told(RING + "p0;p1;p2;p3;p1;");
        x.select(1);
        due("close(), the one behind is now", x.close(), 1);
        due("tab(1, 0)", x.tab(1, 0), 2);
        x.select(3);
        due("close(), the last one is now", x.close(), 2);
        due("tab(2, 0)", x.tab(2, 0), 3);
        due("count(5)", x.count(5), 2);
        due("close()", x.close(), 1);
        due("close()", x.close(), 0);
        due("count(5), the oldest is forgotten", x.count(5), 3);
        due("close() of the only one", x.close(), STATE);
        due("count(6)", x.count(6), 0);
        x.again();
        due("count(4)", x.count(4), 2);
        x.again();
        due("count(4)", x.count(4), 3);
        x.again();
        due("count(4)", x.count(4), 1);
        due("again()", x.again(), STATE);
        guestsAreForgotten();
    }

    private static void guestsAreForgotten() {
        TabTrails x = Checks.told(RING + "g0;k1;s2;n3;p0;");
        due("close() of a guest", x.close(), 0);
        due("count(5)", x.count(5), 0);
        due("close() of a kiosk", x.close(), 0);
        due("count(5)", x.count(5), 0);
        due("close() of a short one", x.close(), 0);
        due("close() of a pinned one", x.close(), 0);
        due("count(5)", x.count(5), 2);
    }

    private static void againPromise() {
        promise = 15;
        due("again() without a web", new TabTrails().again(), STATE);
        TabTrails x = Checks.told(RING + "s0;p3;");
        due("again(), none is closed", x.again(), STATE);
        follows(x, 0, 1, 0, 2);
        x.back();
        due("close()", x.close(), 0);
        due("again()", x.again(), 2);
        countsAre(x, 0, 4, 2, 1, 1, 0, 2, 5, 0);
        due("kind(1)", x.kind(1), 2);
        due("tab(1, 1)", x.tab(1, 1), 0);
        due("tab(1, 3)", x.tab(1, 3), 1);
        trailIs(x, 1, 0, 1, 2);
        x.close();
        for (int tabs = 2; tabs <= 5; tabs++) {
            due("open(0)", x.open(0), tabs);
        }
        due("again() with 5", x.again(), STATE);
        due("count(5)", x.count(5), 1);
    }

    private static void undoPromise() {
        promise = 16;
        due("undo() without a web", new TabTrails().undo(), STATE);
        TabTrails x = Checks.told(RING + "p0;g1;n2;");
        due("undo()", x.undo(), STATE);
        follows(x, 0, 1);
        x.back();
        x.forward();
        x.select(2);
        follows(x, 0, 3);
        x.open(1);
        x.select(1);
        x.close();
        due("close()", x.close(), 1);
        x.again();
        countsAre(x, 0, 4, 4, 3, 2, 0, 3, 10, 0);
        due("undo() of again()", x.undo(), 9);
        countsAre(x, 0, 4, 3, 1, 3, 1, 3, 9, 0);
        due("undo() of close()", x.undo(), 8);
        countsAre(x, 0, 4, 4, 1, 2, 0, 3, 8, 0);
        due("undo() of a guest's close()", x.undo(), 7);
        due("kind(1)", x.kind(1), 4);
        due("undo() of select()", x.undo(), 6);
        due("count(3)", x.count(3), 4);
        due("undo() of open()", x.undo(), 5);
        countsAre(x, 0, 4, 4, 3, 3, 0, 2, 5, 0);
        due("undo() of a pinned one's follow()", x.undo(), 4);
        countsAre(x, 0, 4, 3, 2, 2, 0, 1, 4, 0);
        due("undo() of select()", x.undo(), 3);
        due("undo() of forward()", x.undo(), 2);
        countsAre(x, 0, 4, 3, 0, 0, 0, 1, 2, 0);
        due("undo() of back()", x.undo(), 1);
        countsAre(x, 0, 4, 3, 0, 1, 0, 1, 1, 0);
        due("undo() of follow()", x.undo(), 0);
        countsAre(x, 0, 4, 3, 0, 0, 0, 0, 0, 0);
        trailIs(x, 0, 0);
        due("undo()", x.undo(), STATE);
        oldestActsAreForgotten();
        undoBringsTheOldestClosedBack();
    }

    private static void oldestActsAreForgotten() {
        TabTrails x = Checks.told(RING + "p0;");
        for (int i = 1; i <= 30; i++) {
            x.follow(0);
            due("count(7)", x.count(7), Math.min(i, 24));
        }
        x.follow(2);
        for (int left = 23; left >= 0; left--) {
            due("undo()", x.undo(), left);
        }
        due("undo()", x.undo(), STATE);
        due("count(6)", x.count(6), 6);
        trailIs(x, 0, 1, 2, 3, 0, 1, 2);
    }

    private static void undoBringsTheOldestClosedBack() {
        TabTrails x = Checks.told(RING + "p0;p1;p2;p3;p0;");
        for (int i = 0; i < 4; i++) {
            x.close();
        }
        due("undo()", x.undo(), 3);
        for (int i = 0; i < 3; i++) {
            x.again();
            due("count(4)", x.count(4), 2 - i);
        }
    }

    private static void tabPromise() {
        promise = 17;
        due("tab(0, 0) without a web", new TabTrails().tab(0, 0), BAD);
        TabTrails x = Checks.told(RING + "p3;s2;");
        follows(x, 0, 0, 0, 1);
        x.back();
        due("tab(0, 0)", x.tab(0, 0), 0);
        due("tab(0, 1)", x.tab(0, 1), 3);
        due("tab(0, 2)", x.tab(0, 2), 3);
        due("tab(0, 3)", x.tab(0, 3), 1);
        due("tab(1, 0)", x.tab(1, 0), 2);
        due("tab(2, 0)", x.tab(2, 0), BAD);
        due("tab(-1, 0)", x.tab(-1, 0), BAD);
        due("tab(0, 4)", x.tab(0, 4), BAD);
        due("tab(0, -1)", x.tab(0, -1), BAD);
    }

    private static void trailPromise() {
        promise = 18;
        due("trail(0, 0) without a web", new TabTrails().trail(0, 0), BAD);
        TabTrails x = Checks.told(RING + "p3;s2;");
        follows(x, 0, 0, 0, 1);
        trailIs(x, 0, 3, 0, 1);
        trailIs(x, 1, 2);
        due("trail(0, most)", x.trail(0, MOST), NONE);
        due("trail(0, -1)", x.trail(0, -1), BAD);
        due("trail(2, 0)", x.trail(2, 0), BAD);
        due("trail(-1, 0)", x.trail(-1, 0), BAD);
    }

    private static void pagePromise() {
        promise = 19;
        TabTrails x = Checks.told(PAGES + "p0;");
        due("page(1, 0)", x.page(1, 0), 3);
        due("page(1, 1)", x.page(1, 1), 2);
        due("page(1, 2)", x.page(1, 2), 0);
        due("page(1, 3)", x.page(1, 3), 3);
        due("page(0, 0)", x.page(0, 0), 2);
        due("page(0, 3)", x.page(0, 3), NONE);
        due("page(4, 2)", x.page(4, 2), NONE);
        follows(x, 0, 1, 1, 0, 0, 1);
        x.open(1);
        due("page(1, 4)", x.page(1, 4), 3);
        due("page(0, 4)", x.page(0, 4), 1);
        due("page(2, 4)", x.page(2, 4), 0);
        due("page(5, 0)", x.page(5, 0), BAD);
        due("page(-1, 0)", x.page(-1, 0), BAD);
        due("page(0, 5)", x.page(0, 5), BAD);
        due("page(0, -1)", x.page(0, -1), BAD);
    }

    private static void walkPromise() {
        promise = 20;
        due("walk(-1, 9) without a web, STATE is ahead of BAD", new TabTrails().walk(-1, 9), STATE);
        TabTrails x = Checks.told(PAGES + "p0;p1;");
        due("walk(0, 2)", x.walk(0, 2), 0);
        due("walk(1, 0)", x.walk(1, 0), 1);
        due("walk(1, 2), by the last link", x.walk(1, 2), 2);
        due("walk(2, 2)", x.walk(2, 2), 3);
        due("walk(60, 0)", x.walk(60, 0), 4);
        x.select(1);
        due("walk(1, 1)", x.walk(1, 1), 0);
        due("walk(1, 2)", x.walk(1, 2), 3);
        due("walk(61, 0)", x.walk(61, 0), BAD);
        due("walk(-1, 0)", x.walk(-1, 0), BAD);
        due("walk(0, 3)", x.walk(0, 3), BAD);
        due("walk(0, -1)", x.walk(0, -1), BAD);
        TabTrails ring = Checks.told(RING + "k1;");
        due("walk(60, 0), a walk is no kiosk's", ring.walk(60, 0), 1);
        due("walk(59, 0)", ring.walk(59, 0), 0);
        due("walk(59, 1)", ring.walk(59, 1), 0);
    }

    private static void farPromise() {
        promise = 21;
        TabTrails x = Checks.told(PAGES + "p0;");
        due("far(0, 4)", x.far(0, 4), 3);
        due("far(1, 4)", x.far(1, 4), 2);
        due("far(1, 0)", x.far(1, 0), 1);
        due("far(3, 3)", x.far(3, 3), 0);
        due("far(4, 0)", x.far(4, 0), NONE);
        due("far(0, 5)", x.far(0, 5), BAD);
        due("far(5, 0)", x.far(5, 0), BAD);
        due("far(-1, 0)", x.far(-1, 0), BAD);
        due("far(0, -1)", x.far(0, -1), BAD);
        TabTrails longest = Checks.told("w8;l1;l2;l3;l4;l5;l6;l7;l0;p0;");
        due("far(0, 7)", longest.far(0, 7), 7);
        due("far(0, 0) without a web", new TabTrails().far(0, 0), BAD);
    }

    private static void roundPromise() {
        promise = 22;
        TabTrails x = Checks.told(PAGES + "p0;");
        due("round(0)", x.round(0), 3);
        due("round(1)", x.round(1), 3);
        due("round(2), alone", x.round(2), 4);
        due("round(4)", x.round(4), 16);
        due("round(5)", x.round(5), BAD);
        due("round(-1)", x.round(-1), BAD);
        TabTrails longest = Checks.told("w8;l1;l2;l3;l4;l5;l6;l7;l0;p0;");
        due("round(5)", longest.round(5), 255);
        due("round(0) without a web", new TabTrails().round(0), BAD);
    }

    private static void toIs(TabTrails x, int page, int... presses) {
        due("to(" + page + ", -1)", x.to(page, -1), presses.length);
        for (int k = 0; k < presses.length; k++) {
            due("to(" + page + ", " + k + ")", x.to(page, k), presses[k]);
        }
        due("to(" + page + ", its end)", x.to(page, presses.length), NONE);
    }

    private static void toPromise() {
        promise = 23;
        due("to(0, -1) without a web", new TabTrails().to(0, -1), BAD);
        TabTrails x = Checks.told("w8;l1;l2;l3;l4;l5,1;l6;l7;l0;p0;");
        toIs(x, 0);
        toIs(x, 4, 2, 2, 2, 2);
        due("to(5, -1), more than 4 presses", x.to(5, -1), NONE);
        due("to(5, 0)", x.to(5, 0), NONE);
        due("to(5, 7)", x.to(5, 7), NONE);
        due("to(8, -1)", x.to(8, -1), BAD);
        due("to(-1, -1)", x.to(-1, -1), BAD);
        due("to(0, -2)", x.to(0, -2), BAD);
        due("to(0, most)", x.to(0, MOST), NONE);
        follows(x, 0, 1, 0, 2, 0, 3, 0, 4);
        toIs(x, 1, 3);
        toIs(x, 2, 0, 0);
        toIs(x, 3, 0);
        toIs(x, 0, 0, 0, 0, 0);
        toIs(x, 7, 2, 2, 2);
        x.back();
        x.back();
        toIs(x, 3, 1);
        toIs(x, 4, 1, 1);
        toIs(x, 5, 1, 1, 2);
        due("count(7), nothing is changed", x.count(7), 6);
        toOfKinds();
    }

    private static void toOfKinds() {
        TabTrails kiosk = Checks.told(RING + "k0;");
        follows(kiosk, 0, 1, 0, 2);
        toIs(kiosk, 1, 2, 2);
        toIs(kiosk, 0, 2);
        due("to(3, -1), a kiosk is home each third link", kiosk.to(3, -1), NONE);
        TabTrails pinned = Checks.told(RING + "n0;p0;p0;p0;");
        toIs(pinned, 1, 2);
        toIs(pinned, 3, 2, 2, 2);
        pinned.open(1);
        pinned.select(0);
        toIs(pinned, 0);
        due("to(1, -1) of a pinned one with 5 tabs", pinned.to(1, -1), NONE);
        TabTrails shorter = Checks.told("w5;l1;l2;l3;l4;l4;s0;");
        follows(shorter, 0, 1, 0, 2, 0, 3);
        toIs(shorter, 1, 0, 0);
        due("to(0, -1), what is forgotten", shorter.to(0, -1), NONE);
    }

    private static void waysPromise() {
        promise = 24;
        due("ways(0, 0) without a web", new TabTrails().ways(0, 0), BAD);
        TabTrails x = Checks.told("w2;l0,0,1;l1,1,1;p0;k1;");
        due("ways(0, 0)", x.ways(0, 0), 1);
        due("ways(1, 0)", x.ways(1, 0), 0);
        due("ways(0, 1)", x.ways(0, 1), 2);
        due("ways(1, 2)", x.ways(1, 2), 5);
        due("ways(0, 12)", x.ways(0, 12), 4096);
        due("ways(1, 12)", x.ways(1, 12), 531441 - 4096);
        x.select(1);
        due("ways(1, 12), of a kiosk, too", x.ways(1, 12), 531441);
        due("ways(0, 13)", x.ways(0, 13), BAD);
        due("ways(0, -1)", x.ways(0, -1), BAD);
        due("ways(2, 0)", x.ways(2, 0), BAD);
        due("ways(-1, 0)", x.ways(-1, 0), BAD);
    }

    private static void sharePromise() {
        promise = 25;
        due("share(0, 0) without a web", new TabTrails().share(0, 0), BAD);
        TabTrails x = Checks.told("w4;l1,0,3;l3;l2;l0;p0;");
        due("share(0, 999), none was visited", x.share(0, 999), 0);
        follows(x, 0, 1, 0, 3, 0, 0, 0, 1, 0, 3, 0, 0, 0, 1);
        due("share(0, 8)", x.share(0, 8), 3);
        due("share(1, 8)", x.share(1, 8), 3);
        due("share(2, 8)", x.share(2, 8), 0);
        due("share(3, 8)", x.share(3, 8), 2);
        due("share(0, 999)", x.share(0, 999), 286);
        due("share(1, 999)", x.share(1, 999), 428);
        due("share(3, 999)", x.share(3, 999), 285);
        due("share(0, 1)", x.share(0, 1), 1);
        due("share(1, 1)", x.share(1, 1), 0);
        due("share(0, 0)", x.share(0, 0), 0);
        due("share(0, 1000)", x.share(0, 1000), BAD);
        due("share(0, -1)", x.share(0, -1), BAD);
        due("share(4, 1)", x.share(4, 1), BAD);
        due("share(-1, 1)", x.share(-1, 1), BAD);
        firstVisitedPagesGetWhatIsOver();
    }

    private static void firstVisitedPagesGetWhatIsOver() {
        TabTrails x = Checks.told("w4;l1;l2;l3;l1;p0;");
        follows(x, 0, 1, 0, 2, 0, 3);
        due("share(0, 5)", x.share(0, 5), 0);
        due("share(1, 5)", x.share(1, 5), 2);
        due("share(2, 5)", x.share(2, 5), 2);
        due("share(3, 5)", x.share(3, 5), 1);
    }

    private static void fitsPromise() {
        promise = 26;
        TabTrails x = new TabTrails();
        x.row(0, 0, 4);
        due("fits(0, 0, 0, 1, 0) without a web", x.fits(0, 0, 0, 1, 0), BAD);
        Checks.read(x, RING + "p0;");
        due("fits(4, 0, 0, 1, 0)", x.fits(4, 0, 0, 1, 0), BAD);
        due("fits(-1, 0, 0, 1, 3)", x.fits(-1, 0, 0, 1, 3), BAD);
        due("fits(0, 8, 0, 1, 0)", x.fits(0, 8, 0, 1, 0), BAD);
        due("fits(0, -1, 0, 1, 0)", x.fits(0, -1, 0, 1, 0), BAD);
        due("fits(0, 0, 0, 0, 0)", x.fits(0, 0, 0, 0, 0), BAD);
        due("fits(0, 0, 0, 13, 0)", x.fits(0, 0, 0, 13, 0), BAD);
        due("fits(0, 0, 0, 1, 4)", x.fits(0, 0, 0, 1, 4), BAD);
        due("fits(0, 0, 0, 1, -1)", x.fits(0, 0, 0, 1, -1), BAD);
        due("fits(0, 1, -1, 12, 0)", x.fits(0, 1, -1, 12, 0), NULL);
        due("fits(0, 0, -1, 1, 0)", x.fits(0, 0, -1, 1, 0), PLACE);
        due("fits(0, 0, 1, 4, 0)", x.fits(0, 0, 1, 4, 0), PLACE);
        due("fits(0, 0, most, 12, 0)", x.fits(0, 0, MOST, 12, 0), PLACE);
        due("fits(0, 0, 3, 1, 1)", x.fits(0, 0, 3, 1, 1), 8);
        fittingSorts();
        fittingStarts();
        fittingLeads();
        fittingHomes();
        pinnedWithoutRoom();
    }

    private static void fittingSorts() {
        TabTrails x = Checks.told(RING + "p1;");
        setAll(x, 0, 2, 3, 0, 1, 2, 3, 1, 2);
        due("fits(0, 0, 0, 2, 0)", x.fits(0, 0, 0, 2, 0), 62);
        due("fits(0, 0, 0, 3, 0), all but a kiosk", x.fits(0, 0, 0, 3, 0), 30);
        due("fits(0, 0, 4, 4, 0), a kiosk alone", x.fits(0, 0, 4, 4, 0), 32);
        due("fits(0, 0, 1, 1, 0)", x.fits(0, 0, 1, 1, 0), 0);
        follows(x, 0, 2, 0, 3, 0, 0, 0, 1);
        setAll(x, 0, 2, 1, 2);
        due("fits(0, 0, 0, 1, 0)", x.fits(0, 0, 0, 1, 0), 30);
        due("fits(0, 0, 1, 2, 0), of a trail that is long already", x.fits(0, 0, 1, 2, 0), 32);
        setAll(x, 0, 2, -1);
        due("fits(0, 0, 0, 2, 0), no page at all", x.fits(0, 0, 0, 2, 0), 0);
        due("count(6)", x.count(6), 4);
    }

    private static void fittingStarts() {
        TabTrails x = Checks.told("w4;l2;l2;l3;l0;k1;");
        setAll(x, 0, 2, 3, 1, 2);
        due("fits(0, 0, 0, 1, 1)", x.fits(0, 0, 0, 1, 1), 3);
        due("fits(0, 0, 0, 4, 1), home stays", x.fits(0, 0, 0, 4, 1), 3);
        follows(x, 0, 2);
        due("fits(0, 0, 1, 3, 1)", x.fits(0, 0, 1, 3, 1), 4);
        due("count(4)", x.count(4), 2);
        trailIs(x, 0, 1, 2);
    }

    private static void fittingLeads() {
        TabTrails x = Checks.told(RING + "p0;");
        setAll(x, 0, 1, 3, 0, 1, 3);
        due("fits(1, 0, 0, 1, 2)", x.fits(1, 0, 0, 1, 2), 15);
        due("fits(1, 0, 0, 5, 2)", x.fits(1, 0, 0, 5, 2), 8);
        due("fits(2, 0, 0, 5, 2)", x.fits(2, 0, 0, 5, 2), 0);
        due("page(1, 1), it leads where it led", x.page(1, 1), 2);
        due("fits(0, 0, 1, 1, 2)", x.fits(0, 0, 1, 1, 2), 8);
    }

    private static void fittingHomes() {
        TabTrails x = Checks.told(RING + "k0;");
        setAll(x, 0, 1, 2, 3, 0, 1, 2, 3);
        due("fits(0, 0, 0, 2, 3)", x.fits(0, 0, 0, 2, 3), 15);
        due("fits(0, 0, 0, 3, 3)", x.fits(0, 0, 0, 3, 3), 8);
        due("fits(0, 0, 0, 4, 3)", x.fits(0, 0, 0, 4, 3), 8);
        due("fits(0, 0, 0, 7, 3), home each third link", x.fits(0, 0, 0, 7, 3), 0);
        due("tab(0, 1)", x.tab(0, 1), 0);
        TabTrails plain = Checks.told(RING + "p0;");
        setAll(plain, 0, 1, 2, 3, 0, 1, 2, 3);
        due("fits(0, 0, 0, 7, 3) of a plain one", plain.fits(0, 0, 0, 7, 3), 15);
    }

    /** A link that cannot be followed leaves what is shown, and that is what the row must tell. */
    private static void pinnedWithoutRoom() {
        TabTrails x = Checks.told("w3;l1;l2;l0;n0;p0;p0;p0;p1;");
        setAll(x, 0, 0, 0, 1, 2, 1, 1);
        due("fits(0, 0, 0, 1, 0), pinned alone", x.fits(0, 0, 0, 1, 0), 8);
        due("fits(0, 0, 0, 2, 0), pinned alone", x.fits(0, 0, 0, 2, 0), 8);
        due("fits(0, 0, 2, 2, 0), all but pinned", x.fits(0, 0, 2, 2, 0), 2 + 4 + 16 + 32);
        due("fits(0, 0, 1, 2, 0), neither stays nor goes", x.fits(0, 0, 1, 2, 0), 0);
        due("fits(0, 0, 0, 2, 1)", x.fits(0, 0, 0, 2, 1), 1);
        due("fits(0, 0, 4, 2, 1)", x.fits(0, 0, 4, 2, 1), 2);
        due("fits(0, 0, 2, 2, 1)", x.fits(0, 0, 2, 2, 1), 0);
        due("fits(0, 0, 0, 2, 2), wherever it leads", x.fits(0, 0, 0, 2, 2), 7);
        due("fits(0, 0, 4, 2, 2)", x.fits(0, 0, 4, 2, 2), 0);
        due("fits(0, 0, 0, 2, 3), wherever home is", x.fits(0, 0, 0, 2, 3), 7);
        due("fits(0, 0, 4, 2, 3)", x.fits(0, 0, 4, 2, 3), 0);
        x.select(4);
        due("fits(0, 0, 4, 2, 0), another tab as pinned", x.fits(0, 0, 4, 2, 0), 8);
        due("fits(0, 0, 4, 2, 1), it is plain", x.fits(0, 0, 4, 2, 1), 0);
        x.close();
        x.select(0);
        due("fits(0, 0, 0, 2, 0), with room", x.fits(0, 0, 0, 2, 0), 0);
        due("fits(0, 0, 2, 2, 0), with room", x.fits(0, 0, 2, 2, 0), 62);
        due("fits(0, 0, 2, 2, 1), with room", x.fits(0, 0, 2, 2, 1), 1);
    }

    private static void chanceIs(TabTrails x, int page, int n, int above, int below) {
        due("chance(" + page + ", " + n + ", 0)", x.chance(page, n, 0), above);
        due("chance(" + page + ", " + n + ", 1)", x.chance(page, n, 1), below);
    }

    private static void chancePromise() {
        promise = 27;
        due("chance(0, 0, 0) without a web", new TabTrails().chance(0, 0, 0), BAD);
        TabTrails x = Checks.told("w3;l0,0,1;l2,0;l2;p0;k0;");
        chanceIs(x, 0, 0, 1, 1);
        chanceIs(x, 1, 0, 0, 1);
        chanceIs(x, 0, 1, 2, 3);
        chanceIs(x, 1, 1, 1, 3);
        chanceIs(x, 2, 1, 0, 1);
        chanceIs(x, 0, 2, 11, 18);
        chanceIs(x, 1, 2, 2, 9);
        chanceIs(x, 2, 2, 1, 6);
        TabTrails wide = Checks.told("w3;l0,1,2;l0,1,2;l0,1,2;p0;");
        chanceIs(wide, 2, 8, 1, 3);
        TabTrails high = Checks.told("w2;l0,0,1;l1;p0;");
        chanceIs(high, 0, 8, 256, 6561);
        chanceIs(high, 1, 8, 6305, 6561);
        due("chance(0, 9, 0)", x.chance(0, 9, 0), BAD);
        due("chance(0, -1, 0)", x.chance(0, -1, 0), BAD);
        due("chance(3, 0, 0)", x.chance(3, 0, 0), BAD);
        due("chance(-1, 0, 0)", x.chance(-1, 0, 0), BAD);
        due("chance(0, 0, 2)", x.chance(0, 0, 2), BAD);
        due("chance(0, 0, -1)", x.chance(0, 0, -1), BAD);
    }

    private static void drawnPromise() {
        promise = 28;
        due("drawn(-1, 0, 9) without a web, STATE is ahead of BAD", new TabTrails().drawn(-1, 0, 9), STATE);
        TabTrails x = Checks.told(ALL_KINDS);
        due("drawn(0, 1, 0)", x.drawn(0, 1, 0), 0);
        due("drawn(0, 1, 1)", x.drawn(0, 1, 1), 0);
        // 1 * 16807 leaves 0 by 7: link 0 of page 0 leads to 1.
        due("drawn(1, 1, 0)", x.drawn(1, 1, 0), 1);
        due("drawn(1, 1, 1)", x.drawn(1, 1, 1), 1);
        // 282475249 leaves 0 by 7, too: link 0 of page 1 leads to 2.
        due("drawn(2, 1, 1)", x.drawn(2, 1, 1), 2);
        // 1622650073 leaves 2 by 7, but page 2 has no link 2.
        due("drawn(3, 1, 0)", x.drawn(3, 1, 0), 2);
        due("drawn(1, 300000, 0), there are 5 tabs", x.drawn(1, 300000, 0), 0);
        due("drawn(1, 999999, 1)", x.drawn(1, 999999, 1), 1);
        due("drawn(60, 9, 0)", x.drawn(60, 9, 0), 22);
        due("drawn(60, 9, 1)", x.drawn(60, 9, 1), 3);
        countsAre(x, 0, 5, 5, 0, 0, 0, 0, 0, 0);
        due("drawn(61, 1, 0)", x.drawn(61, 1, 0), BAD);
        due("drawn(-1, 1, 0)", x.drawn(-1, 1, 0), BAD);
        due("drawn(1, 0, 0)", x.drawn(1, 0, 0), BAD);
        due("drawn(1, 1000000, 0)", x.drawn(1, 1000000, 0), BAD);
        due("drawn(1, 1, 2)", x.drawn(1, 1, 2), BAD);
        due("drawn(1, 1, -1)", x.drawn(1, 1, -1), BAD);
        singleDraws();
    }

    private static void drawIs(TabTrails x, int seed, int visited, int shown) {
        due("drawn(1, " + seed + ", 0)", x.drawn(1, seed, 0), visited);
        due("drawn(1, " + seed + ", 1)", x.drawn(1, seed, 1), shown);
    }

    /** The first draw of 900000 leaves 0 by 7, that of 800000 1, and so on to 200000. */
    private static void singleDraws() {
        TabTrails x = Checks.told(PAGES + "p1;s0;k4;");
        drawIs(x, 900000, 1, 2);
        drawIs(x, 800000, 1, 0);
        drawIs(x, 700000, 1, 3);
        drawIs(x, 550000, 0, 1);
        follows(x, 0, 2);
        drawIs(x, 700000, 0, 2);
        drawIs(x, 550000, 0, 1);
        // 280349059 leaves 1 by 3 tabs, 280365866 leaves 2.
        drawIs(x, 400000, 0, 0);
        drawIs(x, 400001, 0, 4);
        // 747132706 leaves 1 by 5 pages, 747149513 leaves 3.
        drawIs(x, 300000, 1, 1);
        drawIs(x, 300001, 1, 3);
        drawIs(x, 200000, 0, 0);
        x.select(2);
        drawIs(x, 200000, 0, 0);
        drawIs(x, 550000, 0, 4);
        countsAre(x, 0, 5, 3, 2, 4, 0, 1, 2, 0);
        TabTrails only = Checks.told(PAGES + "p3;");
        drawIs(only, 200000, 0, 3);
        drawIs(only, 400000, 0, 3);
    }

    private static void imagePromise() {
        promise = 29;
        TabTrails none = new TabTrails();
        due("image(2) without a web, BAD is ahead of STATE", none.image(2), BAD);
        due("image(-1)", none.image(-1), BAD);
        due("image(0) without a web", none.image(0), STATE);
        due("restore(0), none was kept", none.restore(0), STATE);
        TabTrails x = Checks.told(RING + "p0;");
        due("image(0)", x.image(0), 1);
        follows(x, 0, 1);
        due("image(1)", x.image(1), 1);
        follows(x, 0, 2);
        due("image(0) in place of the one before", x.image(0), 1);
        due("count(7), acts can be undone yet", x.count(7), 2);
        follows(x, 0, 3);
        x.restore(1);
        trailIs(x, 0, 0, 1);
        x.restore(0);
        trailIs(x, 0, 0, 1, 2);
    }

    private static void restorePromise() {
        promise = 30;
        TabTrails x = Checks.told(ALL_KINDS);
        due("restore(2)", x.restore(2), BAD);
        due("restore(-1)", x.restore(-1), BAD);
        due("restore(0), none was kept", x.restore(0), STATE);
        follows(x, 0, 1, 0, 2);
        x.back();
        x.select(1);
        x.close();
        x.image(1);
        x.again();
        Checks.read(x, RING + "k3;");
        due("restore(1)", x.restore(1), 1);
        countsAre(x, 0, 5, 4, 1, 2, 1, 2, 0, 0);
        due("undo()", x.undo(), STATE);
        due("page(1, 3)", x.page(1, 3), 3);
        trailIs(x, 0, 0, 1, 2);
        due("tab(0, 3)", x.tab(0, 3), 1);
        x.again();
        due("kind(4)", x.kind(4), 2);
        due("restore(1), as often as one likes", x.restore(1), 1);
        due("count(2)", x.count(2), 4);
        due("undo(), behind again(), too", x.undo(), STATE);
        due("restore(0)", x.restore(0), STATE);
    }

    private static void kindPromise() {
        promise = 31;
        due("kind(0) without a web", new TabTrails().kind(0), BAD);
        TabTrails x = Checks.told(PAGES + "k0;g0;n0;s0;p0;");
        for (int tab = 0; tab < 5; tab++) {
            due("kind(" + tab + ")", x.kind(tab), 5 - tab);
        }
        due("kind(5)", x.kind(5), BAD);
        due("kind(-1)", x.kind(-1), BAD);
    }

    private static void asPromise() {
        promise = 32;
        due("as(0, 0) without a web", new TabTrails().as(0, 0), BAD);
        TabTrails x = Checks.told(ALL_KINDS);
        int[] kindsOf = {3, 7, 11, 17, 49};
        for (int tab = 0; tab < 5; tab++) {
            for (int kind = 0; kind <= 5; kind++) {
                boolean isOne = (kindsOf[tab] >> kind & 1) != 0;
                due("as(" + tab + ", " + kind + ")", x.as(tab, kind), isOne ? tab : KIND);
                due("status()", x.status(), isOne ? 0 : 3);
            }
        }
        due("as(5, 0)", x.as(5, 0), BAD);
        due("as(-1, 0)", x.as(-1, 0), BAD);
        due("as(0, 6)", x.as(0, 6), BAD);
        due("as(0, -1)", x.as(0, -1), BAD);
    }

    private static void askPromise() {
        promise = 33;
        due("ask(0, 0) without a web", new TabTrails().ask(0, 0), BAD);
        TabTrails x = Checks.told("w5;l1,2;l2,0,3;l3;l4,4;l4;p3;s1;n2;g0;k1;");
        due("ask(0, 0)", x.ask(0, 0), 1 + 0 + 3);
        traceIs(x, 11, 10, 21, 20);
        due("ask(0, 1)", x.ask(0, 1), 3);
        traceIs(x, 21, 20);
        due("ask(1, 0)", x.ask(1, 0), -(1 + 2 * (1 + 1)));
        traceIs(x, 12, 11, 10, 24, 21, 20);
        due("ask(1, 1)", x.ask(1, 1), 4);
        traceIs(x, 24, 21, 20);
        due("ask(2, 0)", x.ask(2, 0), 1 + 2 + 2 - 1000);
        traceIs(x, 11, 10, 22, 21, 20);
        due("ask(2, 1)", x.ask(2, 1), 2 + 2 - 1000);
        traceIs(x, 22, 21, 20);
        due("ask(3, 0)", x.ask(3, 0), 1 - 100);
        traceIs(x, 13, 10);
        due("ask(3, 1)", x.ask(3, 1), 3 - (1 - 100));
        traceIs(x, 23, 20, 13, 10);
        due("ask(4, 0)", x.ask(4, 0), 2 * (1 - 100));
        traceIs(x, 14, 13, 10);
        due("ask(4, 1)", x.ask(4, 1), 4 + 198);
        traceIs(x, 23, 20, 14, 13, 10);
        due("ask(5, 0)", x.ask(5, 0), BAD);
        due("ask(-1, 0)", x.ask(-1, 0), BAD);
        due("ask(0, 2)", x.ask(0, 2), BAD);
        due("ask(0, -1)", x.ask(0, -1), BAD);
        traceIs(x, 23, 20, 14, 13, 10);
        follows(x, 0, 4, 0, 4);
        x.back();
        due("ask(0, 0) of a longer trail", x.ask(0, 0), 3 + 4);
    }

    private static void tracePromise() {
        promise = 34;
        TabTrails x = Checks.told(ALL_KINDS);
        due("trace(0), nothing was asked", x.trace(0), NONE);
        x.ask(1, 0);
        due("trace(5)", x.trace(5), 20);
        due("trace(6)", x.trace(6), NONE);
        due("trace(16)", x.trace(16), NONE);
        due("trace(-1)", x.trace(-1), NONE);
        due("trace(most)", x.trace(MOST), NONE);
        due("trace(least)", x.trace(LEAST), NONE);
        x.ask(0, 1);
        traceIs(x, 21, 20);
        Checks.read(x, RING + "p0;");
        traceIs(x, 21, 20);
    }

    private static void countPromise() {
        promise = 35;
        TabTrails x = Checks.told(PAGES + "p0;p4;s1;");
        x.row(3, 0, 1);
        x.row(5, 1, 0);
        follows(x, 0, 1);
        x.select(1);
        x.close();
        x.select(0);
        x.select(1);
        x.feed('w');
        countsAre(x, 2, 5, 2, 1, 1, 1, 1, 5, 1);
        due("count(9)", x.count(9), BAD);
        due("count(-1)", x.count(-1), BAD);
    }

    private static void statusPromise() {
        promise = 36;
        TabTrails x = Checks.told(PAGES + "p0;");
        due("status()", x.status(), 0);
        x.row(0, 0, -1);
        due("status() of SIZE", x.status(), 4);
        x.row(0, 3, 1);
        x.set(8, 0, 0);
        x.copy(8, 0, 0, 0, 0);
        x.drop(8);
        x.fits(0, 0, 0, 0, 0);
        x.as(0, 6);
        due("status() behind BAD calls", x.status(), 4);
        x.set(0, 0, 0);
        due("status() of NULL", x.status(), 1);
        x.row(0, 0, 1);
        due("status() of none", x.status(), 0);
        x.set(0, 1, 0);
        due("status() of PLACE", x.status(), 2);
        x.set(0, 0, 0);
        due("status() of none", x.status(), 0);
        x.row(1, 1, 1);
        x.copy(0, 0, 1, 0, 1);
        due("status() of STORE", x.status(), 5);
        x.follow(0);
        x.ask(0, 0);
        x.image(0);
        x.restore(0);
        Checks.read(x, "q");
        due("status() behind calls without a row", x.status(), 5);
        x.copy(0, 0, 0, 0, 1);
        due("status() of none", x.status(), 0);
        x.as(0, 5);
        due("status() of KIND", x.status(), 3);
        x.as(0, 0);
        due("status() of none", x.status(), 0);
        x.fits(0, 7, 0, 1, 0);
        due("status() of NULL", x.status(), 1);
        x.fits(0, 0, 0, 1, 0);
        due("status() of none", x.status(), 0);
        x.drop(7);
        due("status() of NULL", x.status(), 1);
        x.drop(0);
        due("status() of none", x.status(), 0);
    }

    public static void main(String[] args) {
        newObject();
        rowPromise();
        setPromise();
        copyPromise();
        dropPromise();
        feedPromise();
        webPromise();
        faultPromise();
        followPromise();
        backPromise();
        forwardPromise();
        selectPromise();
        openPromise();
        closePromise();
        againPromise();
        undoPromise();
        tabPromise();
        trailPromise();
        pagePromise();
        walkPromise();
        farPromise();
        roundPromise();
        toPromise();
        waysPromise();
        sharePromise();
        fitsPromise();
        chancePromise();
        drawnPromise();
        imagePromise();
        restorePromise();
        kindPromise();
        asPromise();
        askPromise();
        tracePromise();
        countPromise();
        statusPromise();
        checks.end();
    }
}
