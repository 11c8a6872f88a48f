/** Boundary cases of tabs and acts, promises 9 to 19, a test for each sentence. */
public final class BoundsOfActsTest {
    private static final Bounds bounds = new Bounds();
    private static final String RING = Bounds.RING, PAGES = Bounds.PAGES, EIGHT = Bounds.EIGHT;

    private BoundsOfActsTest() { }

    private static void homeAtFirst() {
        bounds.says("A TAB has a TRAIL of PAGES (1 at least; HOME at first), and SHOWS one of them.");
        bounds.on(EIGHT + "p7;s0;n3;g6;k1;").trail(0, 7).trail(1, 0).trail(2, 3).trail(3, 6).trail(4, 1)
            .does("tab(0,0)=7 tab(0,1)=7 tab(0,3)=0 tab(1,0)=0 tab(1,1)=0 tab(2,0)=3 tab(2,1)=3 tab(3,0)=6 tab(3,1)=6")
            .does("tab(4,0)=1 tab(4,1)=1 tab(4,3)=0").still("back()=STATE forward()=STATE");
        bounds.on(EIGHT + "p7;").does("open(0)=2").trail(1, 0).does("tab(1,1)=0 tab(1,3)=0")
            .still("back()=STATE forward()=STATE");
    }

    private static void cutOff() {
        bounds.says("what is behind the PAGE that is SHOWN is cut off the TRAIL, the PAGE to which the LINK leads comes "
            + "last, and is SHOWN");
        Run full = bounds.on(RING + "p0;").does("follow(0)=1 follow(0)=2 follow(0)=3 follow(0)=0 follow(0)=1")
            .trail(0, 0, 1, 2, 3, 0, 1);
        full.twin().times(5, "back()").does("tab(0,3)=0 follow(1)=0 tab(0,0)=0 tab(0,3)=1").trail(0, 0, 0)
            .still("forward()=STATE");
        full.twin().does("back()=0 follow(0)=1 tab(0,3)=5").trail(0, 0, 1, 2, 3, 0, 1).still("forward()=STATE");
        full.twin().does("back()=0 follow(1)=0 tab(0,3)=5").trail(0, 0, 1, 2, 3, 0, 0);
        full.twin().times(4, "back()").does("follow(0)=2 tab(0,3)=2").trail(0, 0, 1, 2).still("forward()=STATE");
        bounds.on(RING + "p0;").does("follow(1)=0").trail(0, 0, 0).does("tab(0,3)=1 back()=0 tab(0,3)=0");
    }

    private static void firstIsForgotten() {
        bounds.says("of a TRAIL of more than 6 (of a short one 3) PAGES the first is forgotten");
        for (String sort : new String[] {"p", "g"}) {
            Run run = bounds.on(EIGHT + sort + "0;").does("follow(0)=1 follow(0)=2 follow(0)=3 follow(0)=4 follow(0)=5")
                .trail(0, 0, 1, 2, 3, 4, 5);
            run.twin().does("follow(0)=6 tab(0,1)=0 tab(0,3)=5").trail(0, 1, 2, 3, 4, 5, 6).does("follow(0)=7")
                .trail(0, 2, 3, 4, 5, 6, 7).times(5, "back()").still("back()=STATE").does("tab(0,0)=2 tab(0,3)=0");
            run.twin().does("back()=4 follow(0)=5").trail(0, 0, 1, 2, 3, 4, 5);
        }
        Run small = bounds.on(EIGHT + "s0;").does("follow(0)=1 follow(0)=2").trail(0, 0, 1, 2);
        small.twin().does("follow(0)=3 tab(0,1)=0 tab(0,3)=2").trail(0, 1, 2, 3).does("follow(0)=4").trail(0, 2, 3, 4)
            .does("back()=3 back()=2").still("back()=STATE");
        small.twin().does("back()=1 follow(0)=2 tab(0,3)=2").trail(0, 0, 1, 2);
        small.twin().does("back()=1 back()=0 follow(0)=1 tab(0,3)=1").trail(0, 0, 1);
        // An opened tab, and what a pinned one opens, is plain: it keeps six.
        bounds.on(EIGHT + "s0;").does("open(0)=2").times(5, "follow(0)").trail(1, 0, 1, 2, 3, 4, 5).does("follow(0)=6")
            .trail(1, 1, 2, 3, 4, 5, 6);
        bounds.on(EIGHT + "n0;").times(6, "follow(0)").trail(1, 1, 2, 3, 4, 5, 6).does("follow(0)=7")
            .trail(1, 2, 3, 4, 5, 6, 7).trail(0, 0);
    }

    private static void pinnedOnes() {
        bounds.says("By a pinned one nothing of that: a plain TAB with that PAGE as its HOME comes into the row right "
            + "behind it, and is NOW.");
        bounds.on(RING + "n0;p3;").does("follow(0)=1 count(2)=3 count(3)=1 kind(0)=3 kind(1)=1 tab(1,1)=1 tab(2,0)=3")
            .trail(0, 0).trail(1, 1).trail(2, 3);
        bounds.on(RING + "p3;n0;").does("select(1)=0 follow(1)=0 count(2)=3 count(3)=2 kind(1)=3 kind(2)=1 tab(2,1)=0")
            .trail(0, 3).trail(2, 0);
        Run four = bounds.on(RING + "n0;n1;g2;k3;");
        four.twin().does("follow(0)=1 count(2)=5 count(3)=1 kind(0)=3 kind(1)=1 kind(2)=3 kind(3)=4 kind(4)=5 select(0)=1")
            .still("follow(0)=STATE follow(1)=STATE").does("select(2)=0").still("follow(0)=STATE")
            .does("select(4)=2 close()=3 select(0)=3 follow(0)=1 count(2)=5");
        four.twin().does("select(1)=0 follow(0)=2 count(3)=2 kind(2)=1 kind(3)=4 tab(2,0)=2 page(2,4)=1 count(6)=1")
            .trail(1, 1);
        // With 5 tabs it is only the pinned one that cannot follow.
        bounds.on(RING + "n0;p0;s0;g0;k0;").still("follow(0)=STATE")
            .does("select(1)=0 follow(0)=1 select(2)=1 follow(0)=1 select(3)=2 follow(0)=1 select(4)=3 follow(0)=1")
            .does("count(2)=5");
    }

    private static void kiosks() {
        bounds.says("A kiosk whose TRAIL would have more than 3 PAGES goes home: its TRAIL is HOME alone.");
        bounds.on(EIGHT + "k2;").does("follow(0)=3").trail(0, 2, 3).does("follow(0)=4").trail(0, 2, 3, 4)
            .does("tab(0,3)=2 follow(0)=2 tab(0,3)=0 tab(0,1)=2").trail(0, 2).does("follow(0)=3 follow(0)=4 follow(0)=2")
            .trail(0, 2).does("page(2,4)=2 page(3,4)=2 page(4,4)=2 page(5,4)=0 count(6)=6");
        // Home though the fourth page would be another one, or home itself.
        bounds.on("w2;l0,1;l1;k0;").does("follow(0)=0 follow(0)=0").trail(0, 0, 0, 0).does("follow(1)=0").trail(0, 0)
            .does("page(0,4)=3 page(1,4)=0");
    }

    private static void visits() {
        bounds.says("The PAGE that is SHOWN then by the one NOW is VISITED once more (999 at most).");
        bounds.on(RING + "p0;n1;k0;")
            .does("count(6)=0 follow(1)=0 page(0,4)=1 follow(1)=0 page(0,4)=2 select(1)=0 follow(0)=2 page(2,4)=1")
            .does("page(1,4)=0 count(6)=3")
            .does("back()=STATE select(3)=2 follow(0)=1 follow(0)=2 follow(0)=0 page(0,4)=3 page(3,4)=0 count(6)=6");
        bounds.on(RING + "p0;").times(491, "follow(1)=0");
        bounds.on(RING + "p0;").times(489, "follow(1)=0").does("page(0,4)=489 count(6)=489");
        // Beyond the 512 calls that are promised, but there is no other way to the bound.
        TabTrails x = Checks.told(RING + "p0;");
        for (int i = 0; i < 998; i++) {
            x.follow(1);
        }
        bounds.due("page(0, 4) behind 998 links", x.page(0, 4), 998);
        bounds.due("follow(1)", x.follow(1), 0);
        bounds.due("page(0, 4) behind 999 links", x.page(0, 4), 999);
        bounds.due("follow(1)", x.follow(1), 0);
        bounds.due("page(0, 4) behind 1000 links", x.page(0, 4), 999);
        bounds.due("follow(0)", x.follow(0), 1);
        bounds.due("count(6)", x.count(6), 1000);
        bounds.due("open(0)", x.open(0), 2);
        bounds.due("page(0, 4), opened", x.page(0, 4), 999);
        bounds.due("share(0, 999)", x.share(0, 999), 999);
        bounds.due("share(1, 999)", x.share(1, 999), 0);
    }

    private static void backAndForward() {
        bounds.says("BACK, FORWARD: the PAGE of the TRAIL ahead, behind is SHOWN; a kiosk does neither.");
        bounds.on(EIGHT + "p0;").still("back()=STATE forward()=STATE").times(5, "follow(0)").still("forward()=STATE")
            .does("back()=4 back()=3 back()=2 back()=1 back()=0").still("back()=STATE").trail(0, 0, 1, 2, 3, 4, 5)
            .does("forward()=1 forward()=2 forward()=3 forward()=4 forward()=5").still("forward()=STATE").does("count(6)=5");
        bounds.on(EIGHT + "s0;g1;").times(3, "follow(0)").does("back()=2 back()=1").still("back()=STATE")
            .does("forward()=2 forward()=3").still("forward()=STATE").does("select(1)=0 follow(0)=2 back()=1 forward()=2")
            .still("forward()=STATE");
        bounds.on(EIGHT + "k0;").still("back()=STATE forward()=STATE").does("follow(0)=1")
            .still("back()=STATE forward()=STATE").does("follow(0)=2").still("back()=STATE forward()=STATE");
    }

    private static void selected() {
        bounds.says("SELECTED: a TAB is NOW.");
        bounds.on(RING + "p0;s1;n2;g3;k0;")
            .does("select(4)=0 count(3)=4 count(4)=0 select(3)=4 count(4)=3 select(2)=3 select(1)=2 select(0)=1 count(3)=0")
            .does("count(6)=0 count(7)=5").still("select(0)=STATE select(5)=BAD select(-1)=BAD");
        bounds.on(RING + "p0;").still("select(0)=STATE select(1)=BAD");
    }

    private static void opened() {
        bounds.says("OPENED: a plain TAB with a PAGE as HOME comes last into the row, is NOW; the PAGE is VISITED once "
            + "more.");
        bounds.on(RING + "k1;g2;")
            .does("open(3)=3 count(3)=2 kind(2)=1 tab(2,1)=3 page(3,4)=1 select(0)=2 open(0)=4 count(3)=3 tab(3,0)=0")
            .does("open(3)=5 count(3)=4 page(3,4)=2").still("open(0)=STATE open(3)=STATE open(4)=BAD open(-1)=BAD")
            .does("count(6)=3 close()=3 open(1)=5 tab(4,0)=1");
    }

    private static Run five() {
        return bounds.on(EIGHT + "p0;p1;p2;p3;p4;");
    }

    private static void closedOnes() {
        bounds.says("CLOSED: the one NOW is out of the row (not the only one), that which was behind it is NOW, if there is "
            + "none the last one");
        five().does("close()=0 count(4)=1 close()=0 count(4)=2 close()=0 count(4)=3 close()=0 count(4)=4 count(2)=1")
            .still("close()=STATE");
        five().does("select(4)=0 close()=3 count(4)=3 close()=2 close()=1 close()=0 count(4)=0").still("close()=STATE");
        five().does("select(2)=0 close()=2 count(4)=3 tab(1,0)=1 tab(3,0)=4 close()=2 count(4)=4 close()=1 count(4)=1");
        five().does("select(3)=0 close()=3 count(4)=4 tab(2,0)=2");
        for (char sort : "psngk".toCharArray()) {
            bounds.on(RING + sort + "0;").still("close()=STATE");
        }
        bounds.says("it is CLOSED (of more than 3 the oldest is forgotten)");
        five().does("count(5)=0 close()=0 count(5)=1 close()=0 count(5)=2 close()=0 count(5)=3 close()=0 count(5)=3")
            .does("again()=2 count(4)=3 again()=3 count(4)=2 again()=4 count(4)=1 count(5)=0").still("again()=STATE");
        five().times(3, "close()").does("again()=3 count(4)=2 again()=4 count(4)=1 again()=5 count(4)=0")
            .still("again()=STATE");
        bounds.says("but a guest, a kiosk is forgotten at once");
        bounds.on(RING + "g0;k1;p2;").does("close()=0 count(5)=0 close()=0 count(5)=0 count(2)=1").still("again()=STATE");
        bounds.on(RING + "p0;s1;n2;g3;k0;")
            .does("close()=0 close()=0 close()=0 count(5)=3 count(4)=3 close()=0 count(5)=3 count(4)=0 open(1)=2")
            .does("select(0)=1 close()=0 count(5)=3")
            .does("again()=2 kind(1)=3 again()=3 kind(2)=2 again()=4 kind(3)=1 tab(3,0)=0").still("again()=STATE");
    }

    private static void againWithItsTrail() {
        bounds.says("AGAIN: the TAB that was CLOSED last comes last into the row, with its TRAIL, and is NOW.");
        bounds.on(EIGHT + "p0;s3;n5;p7;").times(7, "follow(0)")
            .does("back()=6 back()=5 select(1)=0 follow(0)=4 close()=1 select(0)=1 close()=0 count(5)=2 count(4)=5")
            .does("again()=3 count(3)=2").trail(2, 2, 3, 4, 5, 6, 7)
            .does("tab(2,0)=5 tab(2,1)=0 tab(2,3)=3 kind(2)=1 count(5)=1 forward()=6 again()=4 count(3)=3 kind(3)=2")
            .does("tab(3,1)=3 tab(3,3)=1").trail(3, 3, 4).does("back()=3 count(6)=8").still("again()=STATE");
        bounds.on(RING + "n0;p1;").does("close()=0 again()=2 kind(1)=3 follow(0)=1 count(3)=2 kind(2)=1");
        bounds.on(RING + "p0;p1;p2;p3;p0;").does("close()=0 open(2)=5").still("again()=STATE")
            .does("close()=3 again()=5 count(4)=2").still("again()=STATE").does("count(5)=1");
    }

    private static void actsAtMost() {
        bounds.says("ACTS (24 at most are kept, of more the oldest is forgotten; each can be undone, the latest first): all "
            + "of these.");
        Run run = bounds.on(RING + "p0;");
        for (int i = 1; i <= 24; i++) {
            run.does("follow(0)=" + i % 4 + " count(7)=" + i);
        }
        Run more = run.twin().does("follow(0)=1 count(7)=24 follow(0)=2 count(7)=24");
        for (int left = 23; left >= 0; left--) {
            run.does("undo()=" + left + " count(4)=" + left % 4 + " count(7)=" + left);
            more.does("undo()=" + left + " count(4)=" + (left + 2) % 4);
        }
        run.still("undo()=STATE").does("count(6)=0").trail(0, 0);
        more.still("undo()=STATE").does("count(6)=2").trail(0, 0, 1, 2);
        Run each = bounds.on(RING + "p0;g1;");
        each.does("follow(0)=1 undo()=0 count(4)=0 count(6)=0 follow(0)=1 back()=0 undo()=1 count(4)=1 back()=0")
            .does("forward()=1 undo()=2 count(4)=0")
            .does("select(1)=0 undo()=2 count(3)=0 open(3)=3 undo()=2 count(2)=2 count(3)=0 page(3,4)=0 close()=0 undo()=2")
            .does("count(2)=2 count(5)=0 kind(0)=1")
            .does("close()=0 again()=2 undo()=3 count(2)=1 count(5)=1 count(3)=0 kind(0)=4 undo()=2 undo()=1 undo()=0")
            .still("undo()=STATE");
        eachIsUndone();
        refusedActsAreNotKept();
        ringOfActs();
    }

    private static void eachIsUndone() {
        bounds.on(RING + "p0;s3;n1;g2;").undoes("follow(0)=1 follow(0)=2 back()=1 back()=0 forward()=1 open(3)=5 select(1)=4 "
            + "follow(0)=0 close()=1 follow(0)=2 close()=2 close()=2 again()=4 again()=5 select(0)=4 back()=0 close()=0 close()=0 "
            + "close()=0 close()=0").still("undo()=STATE");
        bounds.on(EIGHT + "k7;s0;").undoes("follow(0)=0 follow(0)=1 follow(0)=7 follow(0)=0 select(1)=0 follow(0)=1 follow(0)=2 "
            + "follow(0)=3 back()=2 follow(0)=3 open(7)=3 follow(0)=0 follow(0)=1 follow(0)=2 follow(0)=3 follow(0)=4 follow(0)=5 "
            + "select(0)=2 close()=0 close()=0").still("undo()=STATE");
    }

    /** Neither with few acts, nor with as many as are kept: then the oldest one is undone as before, too. */
    private static void refusedActsAreNotKept() {
        bounds.on(RING + "p0;").times(24, "follow(0)")
            .still("follow(2)=STATE follow(3)=BAD forward()=STATE select(0)=STATE select(1)=BAD close()=STATE")
            .still("again()=STATE open(4)=BAD");
        bounds.on(RING + "n0;p0;p0;p0;p0;").times(12, "select(1)=0 select(0)=1")
            .still("follow(0)=STATE follow(2)=STATE back()=STATE forward()=STATE select(0)=STATE open(0)=STATE")
            .still("again()=STATE");
        Run run = bounds.on(RING + "p0;").does("follow(0)=1");
        run.times(30, "follow(2)=STATE forward()=STATE select(0)=STATE close()=STATE again()=STATE open(4)=BAD")
            .does("count(7)=1 undo()=0 count(4)=0");
    }

    /** As many acts and undos as wrap any ring of 24 several times, at every place of it. */
    private static void ringOfActs() {
        Run run = bounds.on(EIGHT + "p0;");
        int page = 0;
        for (int round = 0; round < 5; round++) {
            run.times(27, "follow(0)").does("count(7)=24 count(4)=" + (page + 27) % 8).times(24, "undo()");
            page += 3;
            run.still("undo()=STATE").does("count(4)=" + page % 8 + " count(6)=" + page);
        }
    }

    private static void followPromise() {
        bounds.says("LINK j (0 to 2) is FOLLOWED: the PAGE that NOW SHOWS then.");
        bounds.on(PAGES + "p1;").still("follow(-1)=BAD follow(3)=BAD follow(MOST)=BAD follow(LEAST)=BAD")
            .does("follow(2)=3 back()=1 follow(1)=0 back()=1 follow(0)=2");
        bounds.says("BAD; STATE: no WEB (ahead of BAD), there is no such LINK, by a pinned one with 5 TABS.");
        bounds.fresh().still("follow(0)=STATE follow(3)=STATE follow(-1)=STATE");
        bounds.on(PAGES + "p0;p2;n1;p4;").still("follow(2)=STATE follow(3)=BAD").does("select(1)=0")
            .still("follow(1)=STATE follow(2)=STATE").does("select(3)=1").still("follow(1)=STATE follow(2)=STATE")
            .does("select(2)=3 follow(2)=3 count(2)=5 select(2)=3")
            .still("follow(0)=STATE follow(1)=STATE follow(2)=STATE follow(3)=BAD follow(-1)=BAD");
    }

    private static void backPromise() {
        bounds.says("BACK: the PAGE. STATE: no WEB, there is none, a kiosk.");
        bounds.fresh().still("back()=STATE");
        bounds.on(RING + "p2;n1;k1;").still("back()=STATE").does("follow(0)=3 back()=2").still("back()=STATE")
            .does("select(1)=0").still("back()=STATE").does("follow(0)=2").still("back()=STATE")
            .does("select(3)=2 follow(0)=2").still("back()=STATE");
    }

    private static void forwardPromise() {
        bounds.says("FORWARD: the PAGE. STATE: no WEB, there is none, a kiosk.");
        bounds.fresh().still("forward()=STATE");
        bounds.on(RING + "p2;n1;k1;").still("forward()=STATE").does("follow(0)=3").still("forward()=STATE")
            .does("back()=2 forward()=3").still("forward()=STATE").does("select(1)=0").still("forward()=STATE")
            .does("select(2)=1 follow(0)=2").still("forward()=STATE");
    }

    private static void selectPromise() {
        bounds.says("SELECTED: which was NOW. BAD; STATE: it is.");
        bounds.fresh().still("select(0)=BAD select(-1)=BAD");
        bounds.on(RING + "p0;p1;").still("select(0)=STATE select(2)=BAD select(-1)=BAD select(MOST)=BAD select(LEAST)=BAD")
            .does("select(1)=0").still("select(1)=STATE").does("select(0)=1 open(0)=3 select(2)=STATE select(1)=2 close()=1")
            .still("select(2)=BAD select(1)=STATE");
    }

    private static void openPromise() {
        bounds.says("OPENED: how many TABS there are then. BAD; STATE: there are 5.");
        bounds.fresh().still("open(0)=BAD open(-1)=BAD");
        bounds.on(RING + "p0;").still("open(4)=BAD open(-1)=BAD open(MOST)=BAD open(LEAST)=BAD")
            .does("open(3)=2 open(0)=3 open(0)=4 open(3)=5").still("open(0)=STATE open(4)=BAD").does("close()=3 open(2)=5");
    }

    private static void closePromise() {
        bounds.says("CLOSED: which is NOW then. STATE: no WEB, the only one.");
        bounds.fresh().still("close()=STATE");
        bounds.on(RING + "p0;p1;p2;").does("select(1)=0 close()=1 close()=0").still("close()=STATE")
            .does("again()=2 close()=0").still("close()=STATE");
    }

    private static void againPromise() {
        bounds.says("AGAIN: how many TABS there are then. STATE: none is CLOSED, there are 5.");
        bounds.fresh().still("again()=STATE");
        bounds.on(RING + "p0;p1;p2;p3;p0;").still("again()=STATE").does("close()=0 again()=5").still("again()=STATE")
            .does("close()=3 close()=2 again()=4 again()=5").still("again()=STATE").does("close()=3 open(1)=5 count(5)=1")
            .still("again()=STATE");
    }

    private static void undoPromise() {
        bounds.says("The latest ACT is undone: how many can be undone yet. STATE: none.");
        bounds.fresh().still("undo()=STATE");
        bounds.on(RING + "p0;").still("undo()=STATE").does("follow(0)=1 open(2)=2 undo()=1 undo()=0").still("undo()=STATE")
            .does("follow(1)=0 undo()=0").still("undo()=STATE").does("count(6)=0").trail(0, 0);
        // What an act forgot is there again: the first page of a trail, the oldest closed tab, a guest, a kiosk's trail.
        bounds.on(EIGHT + "p0;").times(6, "follow(0)").does("undo()=5").trail(0, 0, 1, 2, 3, 4, 5);
        bounds.on(EIGHT + "p0;").times(5, "follow(0)").times(4, "back()").does("follow(0)=2 undo()=9 tab(0,3)=1")
            .trail(0, 0, 1, 2, 3, 4, 5);
        bounds.on(EIGHT + "k0;").times(3, "follow(0)").trail(0, 0).does("undo()=2").trail(0, 0, 1, 2);
        bounds.on(EIGHT + "p0;p1;p2;p3;p4;").times(4, "close()")
            .does("undo()=3 count(5)=3 again()=3 count(4)=2 again()=4 count(4)=1 again()=5 count(4)=0");
        bounds.on(EIGHT + "g0;p1;").does("follow(0)=1 close()=0 undo()=1 kind(0)=4 count(2)=2 count(3)=0").trail(0, 0, 1)
            .trail(1, 1);
        bounds.on(EIGHT + "n0;p1;").does("follow(0)=1 undo()=0 count(2)=2 count(3)=0 kind(1)=1 tab(1,1)=1 count(6)=0");
        // undo() itself is no act.
        bounds.on(RING + "p0;").does("follow(0)=1 follow(0)=2 undo()=1 count(7)=1 undo()=0")
            .still("undo()=STATE forward()=STATE");
    }

    private static void tabPromise() {
        bounds.says("Of a TAB: 0 the PAGE that is SHOWN, 1 HOME, 2 how many PAGES its TRAIL has, 3 which of them is SHOWN "
            + "(0 the first). BAD.");
        bounds.fresh().still("tab(0,0)=BAD");
        bounds.on(EIGHT + "p0;p7;").times(6, "follow(0)").does("back()=5")
            .still("tab(0,0)=5 tab(0,1)=0 tab(0,2)=6 tab(0,3)=4 tab(1,0)=7 tab(1,1)=7 tab(1,2)=1 tab(1,3)=0")
            .still("tab(2,0)=BAD tab(-1,0)=BAD tab(0,4)=BAD tab(0,-1)=BAD tab(MOST,0)=BAD tab(LEAST,0)=BAD tab(0,MOST)=BAD")
            .still("tab(0,LEAST)=BAD").does("select(1)=0 close()=0").still("tab(1,0)=BAD");
    }

    private static void trailPromise() {
        bounds.says("The k-th PAGE of the TRAIL of a TAB (0 the first); NONE: not so many. BAD: k below 0, too.");
        bounds.fresh().still("trail(0,0)=BAD trail(0,-1)=BAD");
        bounds.on(EIGHT + "p0;p7;").times(6, "follow(0)").does("back()=5")
            .still("trail(0,0)=1 trail(0,5)=6 trail(0,6)=NONE trail(0,7)=NONE trail(0,MOST)=NONE trail(1,0)=7")
            .still("trail(1,1)=NONE")
            .still("trail(0,-1)=BAD trail(0,LEAST)=BAD trail(2,0)=BAD trail(-1,0)=BAD trail(2,-1)=BAD")
            .does("back()=4 follow(0)=5").still("trail(0,4)=5 trail(0,5)=NONE");
        bounds.on(EIGHT + "p0;").times(5, "follow(0)").times(5, "back()").does("follow(0)=1")
            .still("trail(0,1)=1 trail(0,2)=NONE trail(0,5)=NONE");
    }

    private static void pagePromise() {
        bounds.says("Of a PAGE: 0 how many LINKS it has, 1 to 3 where LINK 0 to 2 leads (NONE), 4 how often it was VISITED. "
            + "BAD.");
        bounds.fresh().still("page(0,0)=BAD page(0,4)=BAD");
        bounds.on(PAGES + "p0;").does("follow(0)=1")
            .still("page(0,0)=2 page(0,1)=1 page(0,2)=2 page(0,3)=NONE page(0,4)=0 page(1,0)=3 page(1,3)=3 page(1,4)=1")
            .still("page(2,0)=1 page(2,1)=3 page(2,2)=NONE")
            .still("page(4,1)=4 page(4,2)=NONE page(5,0)=BAD page(-1,0)=BAD page(0,5)=BAD page(0,-1)=BAD page(MOST,0)=BAD")
            .still("page(LEAST,0)=BAD page(0,MOST)=BAD page(0,LEAST)=BAD");
    }

    public static void main(String[] args) {
        homeAtFirst();
        cutOff();
        firstIsForgotten();
        pinnedOnes();
        kiosks();
        visits();
        backAndForward();
        selected();
        opened();
        closedOnes();
        againWithItsTrail();
        actsAtMost();
        followPromise();
        backPromise();
        forwardPromise();
        selectPromise();
        openPromise();
        closePromise();
        againPromise();
        undoPromise();
        tabPromise();
        trailPromise();
        pagePromise();
        bounds.end();
    }
}
