/** Boundary cases of texts, promises 6 to 8, a test for each sentence. */
public final class BoundsOfTapesTest {
    private static final Bounds bounds = new Bounds();
    private static final String TWO_PAGES = "w2;l0;l0;";
    /** 80 bytes: eight pages of three links each, five tabs, and numbers of two figures where these fill the tape. */
    private static final String LONGEST = "w08;l0,1,2;l0,1,2;l0,1,2;l0,1,2;l0,1,2;l0,1,2;l0,1,2;l0,1,7;p00;s01;n02;g03;k07;";

    private BoundsOfTapesTest() { }

    /** A web with acts, so that what a fault changes would be seen. */
    private static Run standing() {
        return bounds.on(Bounds.RING + "p0;g1;").does("follow(0)=1 open(2)=3 close()=1 image(0)=1");
    }

    private static void tapeIsFull() {
        bounds.says("THE TAPE has at most 80 bytes, that come one by one");
        Run run = bounds.fresh();
        for (int i = 1; i <= 80; i++) {
            run.does("feed(" + i + ")=" + i + " count(8)=" + i);
        }
        run.still("feed(0)=FULL feed(59)=FULL feed(255)=FULL").does("web()=-1000100 count(8)=0 feed(59)=1 count(8)=1");
        bounds.due("bytes of the longest tape here", LONGEST.length(), 80);
        bounds.fresh().reads(LONGEST, 5).does("count(1)=8 page(0,3)=2 page(7,3)=7 kind(4)=5 tab(4,1)=7 count(8)=0");
        bounds.fresh().reads(LONGEST.replace("07;", "077;").substring(0, 80), -1000177).does("fault()=1");
    }

    private static void letters() {
        bounds.says("TOKENS: letters a to z (each by itself)");
        standing().faults("ww2;", 1, 1).faults("w2;ll0;", 4, 1).faults(TWO_PAGES + "pp0;", 10, 1).faults("W2;", 0, 1)
            .faults("w2;L0;", 3, 1).faults(TWO_PAGES + "P0;", 9, 1).faults("`", 0, 1).faults("{", 0, 1).faults("a", 0, 1)
            .faults("z", 0, 1);
    }

    private static void numbers() {
        bounds.says("NUMBERS (figures, 2 at most)");
        bounds.fresh().reads("w02;l00,01,1;l01;p00;k01;", 2).does("count(1)=2 page(0,1)=0 page(0,2)=1 tab(1,1)=1");
        standing().faults("w002;", 1, 1).faults("w2;l000;", 4, 1).faults("w2;l0,001;", 6, 1)
            .faults(TWO_PAGES + "p000;", 10, 1).faults("w/;", 1, 1).faults("w:;", 1, 1).faults("w1 0;", 1, 2)
            .faults("w2/;", 2, 1).faults("w2:", 2, 1).faults("w00;", 1, 2).faults("w99;", 1, 2).faults("w0008;", 1, 1);
    }

    private static void signs() {
        bounds.says("SIGNS , and ; nothing else, no blanks.");
        int[] none = {0, 9, 10, 13, ' ', '+', '-', '.', ':', '<', '_', 127, 128, 200, 255};
        for (int sign : none) {
            standing().faults("w2" + (char) sign, 2, 1).faults(TWO_PAGES + "p0;" + (char) sign, 12, 1);
        }
        standing().faults(" w2;", 0, 1).faults("w 2;", 1, 1).faults("w2 ;", 2, 1).faults("w2; l0;", 3, 1)
            .faults("w2;l0 ,1;", 5, 1).faults(TWO_PAGES + "p0; ", 12, 1);
    }

    private static void parts() {
        bounds.says("web: law page { page } tab { tab }");
        bounds.fresh().reads("w2;l0;l0;k1;", 1);
        standing().faults("", 0, 1).faults("l0;", 0, 1).faults("p0;", 0, 1).faults("w2;", 3, 1).faults("w2;p0;", 3, 1)
            .faults("w2;w2;", 3, 1).faults(TWO_PAGES, 9, 1).faults(TWO_PAGES + "w2;", 9, 1)
            .faults(TWO_PAGES + "p0;l0;", 12, 1).faults(TWO_PAGES + "p0;w2;", 12, 1).faults(TWO_PAGES + "p0;;", 12, 1)
            .faults(TWO_PAGES + ";p0;", 9, 1);
    }

    private static void laws() {
        bounds.says("law: w PAGES ; (2 to 8)");
        bounds.fresh().reads("w2;l1;l0;p1;", 1).does("count(1)=2").still("page(1,0)=1 page(2,0)=BAD");
        bounds.fresh().reads(Bounds.EIGHT + "p7;", 1).does("count(1)=8").still("page(7,0)=1 page(8,0)=BAD");
        standing().faults("w0;l0;p0;", 1, 2).faults("w1;l0;p0;", 1, 2).faults("w9;", 1, 2).faults("w10;", 1, 2)
            .faults("w;", 1, 1).faults("w,", 1, 1).faults("wl", 1, 1).faults("w", 1, 1).faults("w2", 2, 1)
            .faults("w2,", 2, 1).faults("w2l0;", 2, 1).faults("2;", 0, 1);
    }

    private static void asManyPages() {
        bounds.says("page (as many as PAGES tells)");
        bounds.fresh().reads("w3;l0;l0;l0;p0;", 1);
        standing().faults("w3;l0;l0;p0;", 9, 1).faults("w3;l0;l0;l0;l0;p0;", 12, 1).faults("w3;l0;l0;", 9, 1)
            .faults(Bounds.EIGHT + "l0;p0;", 27, 1).faults(Bounds.EIGHT.substring(0, 24) + "p0;", 24, 1);
    }

    private static void links() {
        bounds.says("l LINK { , LINK } ; (1 to 3 LINKS, 0 the first, each a PAGE 0 on, less than PAGES)");
        bounds.fresh().reads("w3;l2;l1,0;l0,2,1;p0;", 1)
            .does("page(0,0)=1 page(0,1)=2 page(0,2)=NONE page(0,3)=NONE page(1,0)=2 page(1,1)=1 page(1,2)=0")
            .does("page(1,3)=NONE page(2,0)=3 page(2,1)=0 page(2,2)=2 page(2,3)=1");
        standing().faults("w3;l;", 4, 1).faults("w3;l,0;", 4, 1).faults("w3;l0,;", 6, 1).faults("w3;l0,,1;", 6, 1)
            .faults("w3;l0,1,2,0;", 9, 1).faults("w3;l3;", 4, 2).faults("w3;l0,3;", 6, 2).faults("w3;l0,1,3;", 8, 2)
            .faults("w3;l0,1,03;", 8, 2).faults("w3;l99;", 4, 2).faults("w3;l0l", 5, 1).faults("w3;l0", 5, 1)
            .faults("w3;l0,1,2", 9, 1).faults("w3;l0,p", 6, 1).faults("w3;l0,", 6, 1);
        bounds.fresh().reads("w8;l7;l7,7;l7,7,7;l0;l0;l0;l0;l0;p0;", 1).does("page(0,1)=7 page(2,3)=7");
        standing().faults("w8;l8;", 4, 2).faults("w8;l7,7,8;", 8, 2).faults("w2;l2;", 4, 2);
    }

    private static void sorts() {
        bounds.says("tab: SORT PAGE ; (SORT: p a plain one, s a short one, n a pinned one, g a guest, k a kiosk; the PAGE "
            + "that it shows, its HOME");
        bounds.fresh().reads(TWO_PAGES + "p1;s0;n1;g0;k1;", 5).does("kind(0)=1 kind(1)=2 kind(2)=3 kind(3)=4 kind(4)=5")
            .does("tab(0,0)=1 tab(0,1)=1 tab(1,0)=0 tab(1,1)=0 tab(2,0)=1 tab(3,1)=0 tab(4,0)=1 tab(4,1)=1");
        for (char letter = 'a'; letter <= 'z'; letter++) {
            if ("psngk".indexOf(letter) < 0) {
                standing().faults(TWO_PAGES + letter + "0;", 9, 1).faults(TWO_PAGES + "p0;" + letter + "0;", 12, 1);
            }
        }
        standing().faults(TWO_PAGES + "p2;", 10, 2).faults(TWO_PAGES + "k02;", 10, 2).faults(TWO_PAGES + "p0;g99;", 13, 2)
            .faults(TWO_PAGES + "p;", 10, 1).faults(TWO_PAGES + "pp", 10, 1).faults(TWO_PAGES + "p", 10, 1)
            .faults(TWO_PAGES + "p0", 11, 1).faults(TWO_PAGES + "p0,", 11, 1).faults(TWO_PAGES + "p0,1;", 11, 1)
            .faults(TWO_PAGES + "p0s0;", 11, 1).faults(TWO_PAGES + "0;", 9, 1);
        bounds.fresh().reads(Bounds.EIGHT + "k7;", 1).does("tab(0,0)=7");
        standing().faults(Bounds.EIGHT + "k8;", 28, 2);
    }

    private static void tabsAtMost() {
        bounds.says("TABS 0 .. 4, 5 at most, in a row");
        bounds.fresh().reads(TWO_PAGES + "p0;", 1).still("kind(0)=1 kind(1)=BAD");
        bounds.fresh().reads(TWO_PAGES + "p0;p0;p0;p0;k1;", 5).still("kind(4)=5 kind(5)=BAD count(2)=5");
        standing().faults(TWO_PAGES + "p0;p0;p0;p0;p0;p0;", 24, 3);
    }

    private static void inPlaceOfTheOneBefore() {
        bounds.says("A WEB that is read stands in place of the one before (none at first): TAB 0 is the one NOW, no TAB is "
            + "CLOSED, no PAGE was VISITED; no ACT can be undone.");
        bounds.on("w8;l1,2,3;l1,2,3;l1,2,3;l1;l1;l1;l1;l1;p7;s6;n5;g4;k3;")
            .does("follow(0)=1 select(1)=0 close()=1 follow(2)=STATE select(3)=1 follow(0)=1 open(0)=5")
            .does("count(3)=4 count(5)=1 count(6)=3 count(7)=6").reads("w2;l1;l0;k1;p0;", 2)
            .does("count(1)=2 count(2)=2 count(3)=0 count(4)=1 count(5)=0 count(6)=0 count(7)=0 count(8)=0").trail(0, 1)
            .trail(1, 0).does("kind(0)=5 kind(1)=1 page(0,0)=1 page(1,0)=1 page(0,1)=1 page(1,1)=0 page(0,4)=0 page(1,4)=0")
            .still("undo()=STATE again()=STATE page(2,0)=BAD kind(2)=BAD page(0,2)=NONE page(0,3)=NONE follow(1)=STATE")
            .still("open(2)=BAD");
        // The same tape a second time puts everything back, too.
        bounds.on(Bounds.RING + "p0;p1;").times(24, "follow(0)").reads(Bounds.RING + "p0;p1;", 2).trail(0, 0)
            .still("undo()=STATE count(6)=0").does("follow(0)=1 undo()=0").still("undo()=STATE");
    }

    private static void firstToken() {
        bounds.says("FAULTS, the first TOKEN that has one (its first byte)");
        standing().faults("w9;l9;q", 1, 2).faults("w2;l0;l2;q9;", 7, 2).faults("w2x;;;", 2, 1).faults("w2;l12;l", 4, 2)
            .faults(TWO_PAGES + "p12;p0;p0;p0;p0;p0;p", 10, 2).faults(TWO_PAGES + "p0;p0;p0;p0;p9;p0;", 22, 2)
            .faults("w99999999", 1, 1).faults(TWO_PAGES + "p0;s12", 13, 2);
        bounds.says("of one TOKEN the least: 1 it cannot stand there, or is none");
        standing().faults("w200;", 1, 1).faults("w2;l999;", 4, 1).faults("9;", 0, 1).faults("w2;9", 3, 1)
            .faults("w2;l0;9", 6, 1).faults(TWO_PAGES + "p0;p0;p0;p0;p0;l", 24, 1)
            .faults(TWO_PAGES + "p0;p0;p0;p0;p0;q", 24, 1).faults(TWO_PAGES + "p0;p0;p0;p0;p0;;", 24, 1)
            .faults(TWO_PAGES + "p0;p0;p0;p0;p0;9", 24, 1).faults(TWO_PAGES + "p0;p0;p0;p0;p0;P", 24, 1);
    }

    private static void whereFaultsAre() {
        bounds.says("a run of three figures, at its first");
        standing().faults("w123", 1, 1).faults("w1234;", 1, 1).faults("w2;l0,123;", 6, 1).faults(TWO_PAGES + "p001;", 10, 1)
            .faults("123", 0, 1).faults("w2;l0;123", 6, 1);
        bounds.says("the end: how many bytes there are");
        String tape = "w2;l0,1;l1;p0;s1;";
        for (int length = 0; length < tape.length(); length++) {
            if (length != 14) {
                standing().faults(tape.substring(0, length), length, 1);
            }
        }
        bounds.fresh().reads(tape.substring(0, 14), 1).reads(tape, 2);
        bounds.fresh().reads(LONGEST.substring(0, 79), -1000179).does("fault()=1");
        bounds.says("a fourth LINK: the , ahead of it");
        standing().faults("w2;l0,1,0,1;", 9, 1).faults("w2;l0,1,0,", 9, 1).faults("w2;l0,1,0,9;", 9, 1)
            .faults("w2;l0,1,0,999;", 9, 1).faults("w2;l0,1,0,;", 9, 1);
        bounds.says("2 a NUMBER that is not as told");
        standing().faults("w1;", 1, 2).faults("w9;", 1, 2).faults("w2;l2;", 4, 2).faults("w2;l0,2;", 6, 2)
            .faults(TWO_PAGES + "n2;", 10, 2).faults("w99", 1, 2).faults("w2;l99", 4, 2).faults(TWO_PAGES + "n99", 10, 2);
        bounds.says("3 a tab more than there is room for (its letter)");
        for (char letter : "psngk".toCharArray()) {
            standing().faults(TWO_PAGES + "p0;s0;n0;g0;k0;" + letter, 24, 3);
        }
        standing().faults(TWO_PAGES + "p0;p0;p0;p0;p0;p0;", 24, 3).faults(TWO_PAGES + "p0;p0;p0;p0;p0;p9;", 24, 3)
            .faults(TWO_PAGES + "p0;p0;p0;p0;p0;pp", 24, 3).faults(TWO_PAGES + "p0;p0;p0;p0;p01;p0;", 25, 3);
    }

    private static void feedPromise() {
        bounds.says("A byte (0 to 255) comes behind the tape: how many it has. BAD; FULL.");
        bounds.fresh().does("feed(0)=1 feed(255)=2 feed(1)=3 feed(254)=4")
            .still("feed(-1)=BAD feed(256)=BAD feed(LEAST)=BAD feed(MOST)=BAD").does("web()=-1000100 count(8)=0")
            .times(79, "feed(119)").does("feed(119)=80").still("feed(119)=FULL feed(0)=FULL feed(256)=BAD feed(-1)=BAD");
        // 375 has the lowest bits of w, but is no byte.
        bounds.fresh().still("feed(375)=BAD").reads("w2;l0;l0;p0;", 1).does("feed(119)=1 count(8)=1");
    }

    private static void webPromise() {
        bounds.says("The tape, empty then, is read: how many TABS there are.");
        bounds.fresh().reads(TWO_PAGES + "p0;", 1).does("count(8)=0 web()=-1000100 fault()=1 count(2)=1")
            .reads(TWO_PAGES + "p0;p0;p0;p0;p0;", 5).does("count(8)=0 feed(119)=1");
        bounds.says("-1000100 less the place of a FAULT: all stays.");
        standing().faults("", 0, 1).faults("w", 1, 1).faults(TWO_PAGES, 9, 1)
            .faults(Bounds.EIGHT + "p0;p0;p0;p0;p0;p0;", 42, 3)
            .does("web()=-1000100 count(8)=0 count(7)=3 feed(1)=1 web()=-1000100 count(8)=0 undo()=2 undo()=1");
        bounds.fresh().faults("w2;l0;l0;p2;", 10, 2).reads("w2;l0;l0;p2;", -1000110)
            .does("count(1)=0 count(2)=0 follow(0)=STATE image(0)=STATE page(0,0)=BAD");
    }

    private static void faultPromise() {
        bounds.says("The number of the latest FAULT; 0 before one.");
        bounds.fresh().does("fault()=0").reads(TWO_PAGES + "p0;", 1).does("fault()=0").reads("w9;", -1000101)
            .does("fault()=2 fault()=2").reads(TWO_PAGES + "p0;", 1).does("fault()=2")
            .reads(TWO_PAGES + "p0;p0;p0;p0;p0;p0;", -1000124)
            .does("fault()=3 follow(3)=BAD fault()=3 web()=-1000100 fault()=1");
    }

    public static void main(String[] args) {
        tapeIsFull();
        letters();
        numbers();
        signs();
        parts();
        laws();
        asManyPages();
        links();
        sorts();
        tabsAtMost();
        inPlaceOfTheOneBefore();
        firstToken();
        whereFaultsAre();
        feedPromise();
        webPromise();
        faultPromise();
        bounds.end();
    }
}
