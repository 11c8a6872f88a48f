/** Boundary cases of what is foretold, promises 20 to 30, a test for each sentence. */
public final class BoundsOfForetoldTest {
    private static final Bounds bounds = new Bounds();
    private static final String RING = Bounds.RING, PAGES = Bounds.PAGES, EIGHT = Bounds.EIGHT;
    private static final String PINNED_FULL = "n0;p0;p0;p0;p0;";

    private BoundsOfForetoldTest() { }

    private static void nothingChanges() {
        bounds.says("FORETOLD (nothing changes).");
        bounds.on(PAGES + "p0;s1;n2;g0;").tells(0, 1, 2, 3, 4)
            .does("feed(119)=1 follow(0)=1 follow(1)=0 image(1)=1 close()=0").does("follow(0)=2 ask(0,0)=-6 as(0,5)=KIND")
            .times(10, "back()=1 forward()=2")
            .still("walk(60,2)=4 far(0,4)=3 round(0)=3 to(4,-1)=2 to(4,1)=2 to(0,0)=0 ways(4,12)=2 share(0,999)=333")
            .still("share(1,5)=2")
            .still("chance(4,8,0)=1 drawn(60,1,1)=4 drawn(60,9,0)=25 fits(0,0,2,2,0)=30 fits(0,0,2,2,1)=4")
            .still("fits(2,0,2,1,2)=8").still("fits(0,0,2,2,3)=31");
    }

    private static void walkPromise() {
        bounds.says("WALK of n steps (0 to 60) by j (0 to 2): the PAGE to which one comes from that SHOWN NOW by LINK j "
            + "each time");
        bounds.on(EIGHT + "k3;")
            .still("walk(0,0)=3 walk(0,2)=3 walk(1,0)=4 walk(5,0)=0 walk(59,0)=6 walk(60,0)=7 walk(60,2)=7");
        bounds.on(EIGHT + PINNED_FULL).still("walk(0,1)=0 walk(60,1)=4");
        bounds.on(PAGES + "p3;p1;").still("walk(1,0)=4 walk(60,1)=4").does("select(1)=0")
            .still("walk(1,0)=2 walk(1,1)=0 walk(1,2)=3").does("follow(0)=2 back()=1").still("walk(1,0)=2");
        bounds.says("or by the last LINK of a PAGE that has not so many");
        bounds.on(PAGES + "p0;").still("walk(1,1)=2 walk(1,2)=2 walk(2,1)=3 walk(2,2)=3 walk(3,2)=4 walk(60,2)=4");
        bounds.says("WALK. BAD; STATE: no WEB (ahead of BAD).");
        bounds.on(PAGES + "p0;")
            .still("walk(-1,0)=BAD walk(61,0)=BAD walk(0,-1)=BAD walk(0,3)=BAD walk(MOST,0)=BAD walk(LEAST,0)=BAD")
            .still("walk(0,MOST)=BAD walk(0,LEAST)=BAD");
        bounds.fresh().still("walk(0,0)=STATE walk(61,3)=STATE walk(-1,-1)=STATE");
    }

    private static void farPromise() {
        bounds.says("FAR from a PAGE to another one: the fewest LINKS; NONE; 0 for itself.");
        bounds.on(EIGHT + "p3;").still("far(0,0)=0 far(7,7)=0 far(0,7)=7 far(7,6)=7 far(7,0)=1 far(0,1)=1 far(1,0)=7");
        bounds.on("w2;l1;l1;p0;").still("far(0,0)=0 far(0,1)=1 far(1,1)=0 far(1,0)=NONE");
        bounds.on("w5;l1;l2;l3;l4,0;l4;p0;").still("far(0,4)=4 far(3,0)=1 far(4,0)=NONE far(4,3)=NONE far(0,3)=3");
        bounds.on("w4;l1,3;l2;l3;l3;p0;").still("far(0,3)=1 far(1,3)=2 far(3,0)=NONE");
        bounds.says("FAR; NONE. BAD.");
        bounds.on(EIGHT + "p0;")
            .still("far(8,0)=BAD far(0,8)=BAD far(-1,0)=BAD far(0,-1)=BAD far(8,8)=BAD far(-1,-1)=BAD far(MOST,0)=BAD")
            .still("far(0,LEAST)=BAD");
        bounds.fresh().still("far(0,0)=BAD");
    }

    private static void roundPromise() {
        bounds.says("ROUND of a PAGE: PAGES (bits) to which one comes from it, and from which to it (it, too).");
        bounds.on(EIGHT + "p0;").still("round(0)=255 round(7)=255");
        bounds.on("w2;l1;l1;p0;").still("round(0)=1 round(1)=2");
        bounds.on("w5;l1;l0;l3,0;l2;l0;p0;").still("round(0)=3 round(1)=3 round(2)=12 round(3)=12 round(4)=16");
        bounds.on("w8;l7;l7;l7;l7;l7;l7;l7;l6;p0;").still("round(7)=192 round(6)=192 round(0)=1 round(5)=32");
        bounds.says("ROUND (bits). BAD.");
        bounds.on(EIGHT + "p0;").still("round(8)=BAD round(-1)=BAD round(MOST)=BAD round(LEAST)=BAD");
        bounds.fresh().still("round(0)=BAD");
    }

    /** The presses to a page, all of them, and that there are no more. */
    private static void presses(Run run, int page, int... due) {
        StringBuilder script = new StringBuilder("to(" + page + ",-1)=" + due.length);
        for (int k = 0; k < due.length; k++) {
            script.append(" to(").append(page).append(',').append(k).append(")=").append(due[k]);
        }
        run.still(script + " to(" + page + "," + due.length + ")=NONE");
    }

    private static void toPromise() {
        bounds.says("TO a PAGE: the fewest PRESSES (0 to 4");
        Run run = bounds.on(EIGHT + "p0;");
        presses(run, 0);
        presses(run, 1, 2);
        presses(run, 3, 2, 2, 2);
        presses(run, 4, 2, 2, 2, 2);
        run.still("to(5,-1)=NONE to(5,0)=NONE to(5,4)=NONE to(7,-1)=NONE");
        run.times(5, "follow(0)");
        presses(run, 1, 0, 0, 0, 0);
        presses(run, 0, 2, 2, 2);
        presses(run, 3, 0, 0);
        run.does("back()=4 back()=3");
        presses(run, 5, 1, 1);
        presses(run, 6, 1, 1, 2);
        presses(run, 7, 1, 1, 2, 2);
        bounds.says("0 BACK, 1 FORWARD, 2 and j: LINK j is FOLLOWED");
        Run three = bounds.on("w5;l1,2,3;l0;l0;l4;l0;p0;");
        presses(three, 1, 2);
        presses(three, 2, 3);
        presses(three, 3, 4);
        presses(three, 4, 4, 2);
        three.does("follow(2)=3");
        presses(three, 0, 0);
        presses(three, 1, 0, 2);
        three.does("back()=0");
        presses(three, 3, 1);
        presses(three, 4, 1, 2);
        toRowsByNumbers();
        toOnlyWhatCanBeDone();
        toRefuses();
    }

    private static void toRowsByNumbers() {
        bounds.says("of several rows the first (by numbers): how many; the k-th; NONE.");
        presses(bounds.on("w2;l1,1,1;l0;p0;"), 1, 2);
        presses(bounds.on("w4;l2,1;l3;l3;l0;p0;"), 3, 2, 2);
        presses(bounds.on("w4;l1,2;l0,0,3;l3;l0;p0;"), 3, 2, 4);
        presses(bounds.on("w4;l1,2;l0,3,3;l3;l0;p0;"), 3, 2, 3);
        // Page 1 is ahead, behind, and where link 0 leads.
        presses(bounds.on("w2;l1;l0;p1;").does("follow(0)=0 follow(0)=1 back()=0"), 1, 0);
        presses(bounds.on("w2;l1;l0;p0;").does("follow(0)=1 back()=0"), 1, 1);
        // Back and link 1, or link 0 and link 0: both are two.
        presses(bounds.on("w5;l1,3;l2;l3;l3;l4;p0;").does("follow(0)=1"), 3, 0, 3);
    }

    private static void toOnlyWhatCanBeDone() {
        bounds.says("each of which can be done, by which that PAGE is SHOWN by the one NOW");
        Run kiosk = bounds.on(EIGHT + "k0;");
        presses(kiosk, 2, 2, 2);
        kiosk.still("to(3,-1)=NONE");
        kiosk.does("follow(0)=1");
        presses(kiosk, 0, 2, 2);
        presses(kiosk, 1);
        kiosk.does("follow(0)=2");
        presses(kiosk, 0, 2);
        presses(kiosk, 1, 2, 2);
        Run four = bounds.on(EIGHT + "n0;p0;p0;p5;");
        presses(four, 1, 2);
        presses(four, 4, 2, 2, 2, 2);
        four.still("to(5,-1)=NONE");
        Run five = bounds.on(EIGHT + PINNED_FULL);
        presses(five, 0);
        five.still("to(1,-1)=NONE to(1,0)=NONE");
        // What was forgotten of a trail is not come to by going back.
        Run small = bounds.on(EIGHT + "s0;").does("follow(0)=1 follow(0)=2");
        presses(small, 0, 0, 0);
        small.does("follow(0)=3");
        presses(small, 1, 0, 0);
        small.still("to(0,-1)=NONE");
        Run plain = bounds.on("w8;l1;l2;l3;l4;l5;l6;l7;l7;p0;").times(6, "follow(0)").does("back()=5 back()=4");
        presses(plain, 1, 0, 0, 0);
        plain.still("to(0,-1)=NONE");
        plain.does("back()=3");
        plain.still("to(0,-1)=NONE");
    }

    private static void toRefuses() {
        bounds.says("TO: how many (k = -1), the k-th (0 on; NONE: not so many); NONE: none. BAD: k below -1, too.");
        bounds.on(EIGHT + "p0;")
            .still("to(4,-1)=4 to(4,0)=2 to(4,3)=2 to(4,4)=NONE to(4,MOST)=NONE to(0,0)=NONE to(5,-1)=NONE to(5,0)=NONE")
            .still("to(4,-2)=BAD to(5,-2)=BAD to(4,LEAST)=BAD to(8,-1)=BAD to(-1,-1)=BAD to(8,0)=BAD to(8,-2)=BAD")
            .still("to(MOST,-1)=BAD to(LEAST,-1)=BAD");
        bounds.fresh().still("to(0,-1)=BAD to(0,0)=BAD");
    }

    private static void waysPromise() {
        bounds.says("WAYS to a PAGE of n steps (0 to 12): how many rows of n LINKS lead there from the PAGE that is SHOWN "
            + "NOW (each of the LINKS of a PAGE for itself).");
        bounds.on("w2;l0,0,1;l1,1,1;p0;k1;")
            .still("ways(0,0)=1 ways(1,0)=0 ways(0,1)=2 ways(1,1)=1 ways(0,12)=4096 ways(1,12)=527345").does("select(1)=0")
            .still("ways(1,0)=1 ways(0,12)=0 ways(1,12)=531441 ways(1,1)=3");
        bounds.on("w2;l1;l0;" + PINNED_FULL).still("ways(0,12)=1 ways(1,12)=0 ways(1,11)=1");
        bounds.says("WAYS. BAD.");
        bounds.on("w2;l1;l0;p0;")
            .still("ways(0,13)=BAD ways(0,-1)=BAD ways(2,0)=BAD ways(-1,0)=BAD ways(0,MOST)=BAD ways(0,LEAST)=BAD")
            .still("ways(MOST,0)=BAD ways(LEAST,0)=BAD");
        bounds.fresh().still("ways(0,0)=BAD");
    }

    private static void sharePromise() {
        bounds.says("SHARE of a PAGE, n in all (0 to 999): n times how often it was VISITED, by how often all were (cut), "
            + "what is over 1 each to the first of these that were");
        Run eight = bounds.on(EIGHT + "p0;").times(8, "follow(0)");
        eight.still("share(0,0)=0 share(7,0)=0 share(0,1)=1 share(1,1)=0 share(6,7)=1 share(7,7)=0 share(7,8)=1")
            .still("share(0,9)=2 share(1,9)=1 share(0,999)=125 share(6,999)=125 share(7,999)=124");
        Run some = bounds.on(EIGHT + "p2;").times(3, "follow(0)");
        some.still("share(3,2)=1 share(4,2)=1 share(5,2)=0 share(3,1)=1 share(4,1)=0 share(3,999)=333 share(4,999)=333")
            .still("share(5,999)=333 share(3,998)=333 share(4,998)=333 share(5,998)=332");
        bounds.on(RING + "p0;").does("open(3)=2").still("share(3,999)=999 share(3,1)=1 share(3,0)=0 share(0,999)=0");
        bounds.says("0, if it was not.");
        bounds.on(RING + "p0;").still("share(0,999)=0 share(3,1)=0");
        some.twin().still("share(0,2)=0 share(2,2)=0 share(6,999)=0 share(7,1)=0");
        bounds.on(RING + "p0;").does("follow(0)=1").still("share(1,5)=5 share(0,5)=0").does("undo()=0")
            .still("share(1,5)=0");
        bounds.says("SHARE. BAD.");
        bounds.on(RING + "p0;").does("follow(0)=1")
            .still("share(0,-1)=BAD share(0,1000)=BAD share(4,0)=BAD share(-1,0)=BAD share(1,MOST)=BAD share(1,LEAST)=BAD")
            .still("share(MOST,1)=BAD share(LEAST,1)=BAD");
        bounds.fresh().still("share(0,0)=BAD");
    }

    private static void fitsTellings() {
        bounds.says("A row tells the PAGE that the one NOW SHOWS behind each of n LINKS 0 (1 to 12) FOLLOWED from now on");
        bounds.on(EIGHT + "p0;").tells(0, 1, 2, 3, 4, 5, 6, 7, 0, 1, 2, 3, 4, 5)
            .still("fits(0,0,0,1,0)=62 fits(0,0,0,2,0)=62 fits(0,0,0,3,0)=30 fits(0,0,0,12,0)=30 fits(0,0,0,12,1)=1")
            .still("fits(0,0,1,12,1)=2 fits(0,0,1,12,0)=0 fits(0,0,2,12,1)=PLACE")
            .still("fits(0,0,0,13,0)=BAD fits(0,0,0,0,0)=BAD fits(0,0,12,1,1)=16");
        bounds.on(EIGHT + "p0;").tells(0, 1, 2, 3, 4, 5, 6, 7, 0, 1, 2, 3, 5)
            .still("fits(0,0,0,11,0)=30 fits(0,0,0,12,0)=0");
        noPages();
        bounds.says("(if that cannot be done, nothing)");
        bounds.on(EIGHT + PINNED_FULL).tells(0, 0, 0, 0, 0, 0, 0, 0, 0, 0, 0, 0, 0).tells(1, 1, 2)
            .still("fits(0,0,0,1,0)=8 fits(0,0,0,12,0)=8 fits(0,0,0,12,1)=1 fits(0,0,0,12,2)=255 fits(0,0,0,12,3)=255")
            .still("fits(0,1,0,1,0)=54 fits(0,1,0,1,1)=2 fits(0,1,0,2,0)=54 fits(0,1,0,2,1)=0 fits(0,1,0,1,2)=0")
            .still("fits(0,1,0,1,3)=0");
        bounds.on(EIGHT + "n0;p0;p0;p0;").tells(0, 0, 0).tells(1, 1, 2, 3)
            .still("fits(0,0,0,1,0)=0 fits(0,1,0,3,0)=30 fits(0,1,0,3,1)=1");
    }

    /** Items that are no pages fit nothing, whatever is guessed. */
    private static void noPages() {
        Run none = bounds.on(EIGHT + "p7;").tells(0, -1, 8, Integer.MAX_VALUE, Integer.MIN_VALUE, 256, -1000000, -8);
        Run full = bounds.on(EIGHT + PINNED_FULL).tells(0, -1, 8, Integer.MAX_VALUE, Integer.MIN_VALUE, 256, -1000000, -8);
        for (int i = 0; i < 7; i++) {
            for (int what = 0; what < 4; what++) {
                none.still("fits(7,0," + i + ",1," + what + ")=0");
                full.still("fits(0,0," + i + ",1," + what + ")=0");
            }
        }
    }

    private static void fitsGuesses() {
        bounds.says("SORTS: KINDS (bits 1 to 5) of the TAB NOW by which it is so");
        Run longer = bounds.on(EIGHT + "p0;").tells(0, 1, 2, 0, 1, 2, 0, 1, 2, 0, 1, 2, 0).times(5, "follow(0)")
            .tells(1, 6, 0, 3, 0, 2, 3, 2, 0);
        longer.still("fits(0,1,0,1,0)=30 fits(0,1,1,1,0)=32");
        longer.does("back()=4 back()=3 back()=2").still("fits(0,1,2,1,0)=30 fits(0,1,3,1,0)=32").does("back()=1")
            .still("fits(0,1,4,1,0)=62 fits(0,1,4,2,0)=30 fits(0,1,6,2,0)=32").does("back()=0")
            .still("fits(0,0,0,2,0)=62 fits(0,0,0,3,0)=32 fits(0,0,0,12,0)=32");
        bounds.says("STARTS: PAGES (bits) it might SHOW now, in place of that in its TRAIL");
        bounds.on("w8;l7;l7;l7;l7;l7;l7;l7;l0;p1;").tells(0, 7, 0, 7)
            .still("fits(0,0,0,1,1)=127 fits(0,0,0,3,1)=127 fits(0,0,1,1,1)=128 fits(0,0,1,2,1)=128");
        Run kiosk = bounds.on(EIGHT + "k0;").tells(0, 4, 5, 0, 1).does("follow(0)=1 undo()=0");
        kiosk.still("fits(0,0,0,3,1)=8 fits(0,0,0,4,1)=8 fits(0,0,1,2,1)=0").does("follow(0)=1")
            .still("fits(0,0,1,2,1)=16 fits(0,0,0,2,1)=0").does("follow(0)=2")
            .still("fits(0,0,2,1,1)=255 fits(0,0,2,2,1)=255");
        bounds.says("LEADS: PAGES (bits) to which LINK 0 of a PAGE might lead");
        bounds.on(PAGES + "p0;").tells(0, 1, 1, 1, 1, 1, 1, 1, 1, 1, 1, 1, 1).tells(1, 2, 3, 4, 4).tells(2, 1, 2, 3)
            .still("fits(1,0,0,12,2)=2 fits(0,0,0,12,2)=0 fits(0,1,0,4,2)=4 fits(0,2,0,3,2)=2 fits(3,2,0,3,2)=31")
            .still("fits(4,2,0,3,2)=31 fits(1,2,0,3,2)=4 fits(2,2,0,3,2)=8 fits(2,2,0,2,2)=31");
        bounds.on(EIGHT + "k0;").tells(0, 1, 0, 1).still("fits(1,0,0,2,2)=1 fits(1,0,0,3,2)=0");
        bounds.says("HOMES: PAGES (bits) that might be HOME of the TAB NOW (its TRAIL stays)");
        bounds.on(EIGHT + "k0;").tells(0, 1, 2, 5, 6, 7, 5).tells(1, 2, 5)
            .still("fits(0,0,0,2,3)=255 fits(0,0,0,3,3)=32 fits(0,0,0,6,3)=32 fits(0,1,0,1,3)=0").does("follow(0)=1")
            .still("fits(0,1,0,2,3)=32 fits(0,1,0,1,3)=255").does("follow(0)=2")
            .still("fits(0,0,0,1,3)=2 fits(0,0,2,1,3)=32");
        bounds.on(EIGHT + "g0;").tells(0, 1, 2, 3, 4).still("fits(0,0,0,4,3)=255 fits(0,0,1,1,3)=0");
    }

    private static void fitsPromise() {
        fitsTellings();
        fitsGuesses();
        bounds.says("BAD: PAGE (always), ROW, n, what; NULL; PLACE.");
        bounds.on(RING + "p0;").tells(0, 1, 2, 3, 0).tells(1).does("row(2,0,12)=12 row(3,1,40)=40")
            .still("fits(4,0,0,1,0)=BAD fits(4,0,0,1,1)=BAD fits(4,0,0,1,2)=BAD fits(4,0,0,1,3)=BAD fits(-1,0,0,1,0)=BAD")
            .still("fits(-1,0,0,1,2)=BAD fits(MOST,0,0,1,3)=BAD fits(LEAST,0,0,1,1)=BAD")
            .still("fits(0,8,0,1,0)=BAD fits(0,-1,0,1,0)=BAD fits(0,0,0,0,0)=BAD fits(0,0,0,-1,0)=BAD fits(0,0,0,13,0)=BAD")
            .still("fits(0,0,0,MOST,0)=BAD fits(0,0,0,LEAST,0)=BAD fits(0,0,0,1,-1)=BAD fits(0,0,0,1,4)=BAD")
            .still("fits(0,4,0,1,0)=NULL fits(0,4,-1,12,3)=NULL fits(0,0,-1,1,0)=PLACE fits(0,0,4,1,0)=PLACE")
            .still("fits(0,0,0,5,0)=PLACE fits(0,0,3,2,0)=PLACE fits(0,0,MOST,1,0)=PLACE fits(0,0,LEAST,1,0)=PLACE")
            .still("fits(0,1,0,1,0)=PLACE fits(0,0,0,4,0)=30 fits(0,0,3,1,1)=8 fits(0,2,0,12,1)=0 fits(0,2,1,12,1)=PLACE")
            .still("fits(0,3,28,12,1)=0 fits(0,3,29,12,1)=PLACE fits(0,3,39,1,1)=8 fits(0,3,40,1,1)=PLACE");
        bounds.fresh().does("row(0,0,1)=1").still("fits(0,0,0,1,0)=BAD fits(0,1,0,1,3)=BAD");
    }

    private static void chancePromise() {
        bounds.says("CHANCE: from the PAGE that is SHOWN NOW n LINKS (0 to 8) are taken, each of those of a PAGE alike "
            + "likely: that one is at a PAGE then: a fraction.");
        bounds.on("w2;l0,1;l0,0,1;p0;p1;")
            .still("chance(0,0,0)=1 chance(0,0,1)=1 chance(1,0,0)=0 chance(1,0,1)=1 chance(0,1,0)=1 chance(0,1,1)=2")
            .still("chance(0,8,0)=319927 chance(0,8,1)=559872 chance(1,8,0)=239945 chance(1,8,1)=559872").does("select(1)=0")
            .still("chance(0,1,0)=2 chance(0,1,1)=3 chance(1,0,0)=1");
        bounds.on("w3;l0,1,2;l0,1,2;l0,1,2;" + PINNED_FULL)
            .still("chance(0,8,0)=1 chance(0,8,1)=3 chance(2,1,0)=1 chance(2,1,1)=3");
        bounds.on("w3;l1,2,2;l0,2;l0,1,1;k0;")
            .still("chance(0,8,0)=30229 chance(0,8,1)=104976 chance(1,8,0)=18193 chance(1,8,1)=52488 chance(2,8,0)=12787")
            .still("chance(2,8,1)=34992");
        bounds.on(EIGHT + "k0;").still("chance(0,8,0)=1 chance(0,8,1)=1 chance(7,7,0)=1 chance(7,8,0)=0 chance(7,8,1)=1");
        bounds.says("CHANCE: above (what = 0), below (1). BAD.");
        bounds.on(RING + "p0;")
            .still("chance(0,9,0)=BAD chance(0,-1,0)=BAD chance(4,0,0)=BAD chance(-1,0,1)=BAD chance(0,0,2)=BAD")
            .still("chance(0,0,-1)=BAD chance(0,MOST,0)=BAD chance(0,LEAST,0)=BAD chance(MOST,0,0)=BAD")
            .still("chance(0,0,MOST)=BAD");
        bounds.fresh().still("chance(0,0,0)=BAD chance(0,0,1)=BAD");
    }

    private static void evenings() {
        bounds.says("EVENINGS of n steps (0 to 60) by a SEED (X at first): ahead of each X becomes the rest of (X times "
            + "16807) by 2147483647");
        Run wide = bounds.on("w8;l1,2,3;l2,0,3;l3,1;l0,4,2;l5,0;l6,7,0;l7,1;l0,2,4;p0;k3;n5;");
        wide.still("drawn(0,1,0)=0 drawn(0,1,1)=0 drawn(0,999999,1)=0 drawn(1,1,0)=1 drawn(1,1,1)=1 drawn(59,1,0)=36")
            .still("drawn(59,1,1)=2 drawn(60,1,0)=37 drawn(60,1,1)=3");
        // 127773 times 16807 is just below 2147483647, 127774 times 16807 just above.
        wide.still("drawn(1,127773,0)=1 drawn(1,127773,1)=1 drawn(1,127774,0)=0 drawn(1,127774,1)=3 drawn(60,127773,0)=23")
            .still("drawn(60,127773,1)=6 drawn(60,127774,0)=32 drawn(60,127774,1)=2");
        wide.still("drawn(2,999999,0)=2 drawn(2,999999,1)=2 drawn(59,999999,0)=19 drawn(60,999999,0)=20")
            .still("drawn(60,999999,1)=0");
        bounds.on(EIGHT + "k3;")
            .still("drawn(59,9,0)=20 drawn(60,9,0)=21 drawn(60,9,1)=3 drawn(60,127774,0)=15 drawn(60,127774,1)=5");
        draws();
        bounds.says("EVENINGS by a SEED (1 to 999999): how often (what = 0), which (1). BAD; STATE: no WEB (ahead of BAD).");
        bounds.on(RING + "p0;")
            .still("drawn(61,1,0)=BAD drawn(-1,1,0)=BAD drawn(1,0,0)=BAD drawn(1,-1,0)=BAD drawn(1,1000000,0)=BAD")
            .still("drawn(1,1,2)=BAD drawn(1,1,-1)=BAD drawn(MOST,1,0)=BAD drawn(LEAST,1,0)=BAD")
            .still("drawn(1,MOST,0)=BAD drawn(1,LEAST,0)=BAD drawn(1,1,MOST)=BAD drawn(0,0,0)=BAD drawn(0,1,2)=BAD");
        bounds.fresh().still("drawn(0,1,0)=STATE drawn(61,0,2)=STATE drawn(-1,1000000,-1)=STATE");
    }

    /** First draws: of 900000 7 leaves 0, of 800000 1, of 700000 2, of 550000 3, of 400000 4, of 300000 5, of 200000 6. */
    private static void draws() {
        bounds.says("if X by 7 leaves 0, 1 or 2, that LINK is FOLLOWED");
        bounds.on(PAGES + "p1;").still("drawn(1,900000,0)=1 drawn(1,900000,1)=2 drawn(1,800000,0)=1 drawn(1,800000,1)=0")
            .still("drawn(1,700000,0)=1 drawn(1,700000,1)=3");
        bounds.says("if 3 BACK");
        bounds.on(PAGES + "p1;").does("follow(0)=2 follow(0)=3").still("drawn(1,550000,0)=0 drawn(1,550000,1)=2");
        bounds.says("if 4 the TAB that is the rest of X by how many there are is SELECTED");
        bounds.on(PAGES + "p1;s0;k4;")
            .still("drawn(1,400000,0)=0 drawn(1,400000,1)=0 drawn(1,400001,0)=0 drawn(1,400001,1)=4");
        bounds.on(PAGES + "p1;s0;k4;p2;p3;").still("drawn(1,400000,1)=3 drawn(1,400001,1)=0");
        bounds.says("if 5 the PAGE that is the rest of X by how many there are is OPENED");
        bounds.on(PAGES + "p0;").still("drawn(1,300000,0)=1 drawn(1,300000,1)=1 drawn(1,300001,0)=1 drawn(1,300001,1)=3");
        bounds.on(EIGHT + "p0;p0;p0;p0;").still("drawn(1,300000,0)=1 drawn(1,300000,1)=2 drawn(1,300001,1)=1");
        bounds.says("if 6 the one NOW is CLOSED");
        bounds.on(PAGES + "p0;s1;k4;").still("drawn(1,200000,0)=0 drawn(1,200000,1)=1").does("select(2)=0")
            .still("drawn(1,200000,0)=0 drawn(1,200000,1)=1");
        bounds.says("each if it can be done");
        bounds.on(PAGES + "p2;").still("drawn(1,800000,0)=0 drawn(1,800000,1)=2 drawn(1,700000,0)=0 drawn(1,700000,1)=2")
            .still("drawn(1,550000,0)=0 drawn(1,550000,1)=2 drawn(1,400000,0)=0 drawn(1,400000,1)=2")
            .still("drawn(1,200000,0)=0 drawn(1,200000,1)=2 drawn(1,900000,0)=1 drawn(1,900000,1)=3");
        bounds.on(PAGES + "k0;p3;").does("follow(0)=1").still("drawn(1,550000,0)=0 drawn(1,550000,1)=1");
        bounds.on(PAGES + PINNED_FULL)
            .still("drawn(1,900000,0)=0 drawn(1,900000,1)=0 drawn(1,300000,0)=0 drawn(1,300000,1)=0");
        bounds.on(PAGES + "p0;p0;p0;p0;p0;").still("drawn(1,900000,0)=1 drawn(1,900000,1)=1 drawn(1,300000,0)=0");
        bounds.on(PAGES + "n0;p0;p0;p0;")
            .still("drawn(1,900000,0)=1 drawn(1,900000,1)=1 drawn(1,300000,0)=1 drawn(1,300000,1)=1");
        bounds.says("how often any PAGE was VISITED by these; which is SHOWN at last");
        bounds.on(EIGHT + "k0;").times(2, "follow(0)")
            .still("drawn(0,1,0)=0 drawn(0,1,1)=2 drawn(1,900000,0)=1 drawn(1,900000,1)=0 drawn(1,800000,0)=0")
            .still("drawn(1,800000,1)=2");
    }

    private static void imagePromise() {
        bounds.says("An IMAGE (0, 1) is kept of the WEB: 1. BAD; STATE: no WEB.");
        bounds.fresh().still("image(0)=STATE image(1)=STATE image(2)=BAD image(-1)=BAD restore(0)=STATE restore(1)=STATE");
        bounds.fresh().reads("w9;", -1000101).still("image(0)=STATE");
        Run run = bounds.on(RING + "p0;").still("image(2)=BAD image(-1)=BAD image(MOST)=BAD image(LEAST)=BAD")
            .does("image(0)=1 count(7)=0 follow(0)=1 image(1)=1 count(7)=1 follow(0)=2 image(1)=1 follow(0)=3 count(7)=3");
        run.twin().does("restore(0)=1 count(4)=0 count(6)=0").trail(0, 0).does("restore(1)=1 count(4)=2 count(6)=2")
            .trail(0, 0, 1, 2);
        run.twin().does("undo()=2 undo()=1 undo()=0 restore(1)=1 count(4)=2 image(0)=1 follow(0)=3 restore(0)=1 count(4)=2");
    }

    private static void restorePromise() {
        bounds.says("The WEB is as an IMAGE kept it (no ACT can be undone then): 1. BAD; STATE: none was kept.");
        bounds.fresh()
            .still("restore(0)=STATE restore(1)=STATE restore(2)=BAD restore(-1)=BAD restore(MOST)=BAD restore(LEAST)=BAD");
        bounds.on(RING + "p0;").does("image(1)=1").still("restore(0)=STATE restore(2)=BAD restore(-1)=BAD");
        Run run = bounds.on(PAGES + "p0;s1;n2;g0;k1;")
            .does("follow(0)=1 follow(0)=2 back()=1 select(1)=0 close()=1 select(3)=1 follow(0)=2 image(0)=1 count(7)=7");
        run.twin().does("restore(0)=1 count(7)=0").still("undo()=STATE")
            .does("count(2)=4 count(3)=3 count(4)=2 count(5)=1 count(6)=3").trail(0, 0, 1, 2).trail(3, 1, 2)
            .does("tab(0,3)=1 kind(3)=5 again()=5 kind(4)=2 undo()=0").still("undo()=STATE");
        run.twin().does("row(0,0,3)=3 ask(0,0)=4 feed(119)=1").reads("9;", -1000101).reads("w2;l1;l0;p1;", 1)
            .does("feed(119)=1 follow(0)=0 image(1)=1 restore(0)=1 count(0)=1 count(1)=5 count(2)=4 count(8)=1 fault()=2")
            .does("trace(0)=11 page(1,0)=3 page(1,4)=1 page(2,4)=2")
            .does("restore(1)=1 count(1)=2 count(4)=0 count(6)=1 count(8)=1").trail(0, 1, 0)
            .does("restore(0)=1 count(1)=5 restore(0)=1 count(4)=2");
        // What comes behind it does not reach the image.
        run.twin()
            .does("restore(0)=1 follow(0)=3 close()=2 open(4)=4 restore(0)=1 count(2)=4 count(4)=2 count(6)=3 count(5)=1")
            .trail(3, 1, 2);
        bounds.on(RING + "p0;").does("image(0)=1").times(24, "follow(0)").does("restore(0)=1").still("undo()=STATE")
            .does("follow(0)=1 count(7)=1 undo()=0").still("undo()=STATE");
    }

    public static void main(String[] args) {
        nothingChanges();
        walkPromise();
        farPromise();
        roundPromise();
        toPromise();
        waysPromise();
        sharePromise();
        fitsPromise();
        chancePromise();
        evenings();
        imagePromise();
        restorePromise();
        bounds.end();
    }
}
