/** Boundary cases of "What it is" and "Terms", a test for each sentence. */
public final class BoundsOfTermsTest {
    private static final Bounds bounds = new Bounds();

    private BoundsOfTermsTest() { }

    private static void callsInAll() {
        bounds.says("An object is used for at most 512 calls after it has been made");
        // 20 bytes, web() and 490 links are 511 calls: the next one is the last that is promised.
        String[] last = {"count(6)=490", "follow(0)=3", "undo()=23", "back()=1", "close()=STATE", "drawn(0,1,1)=2", "walk(60,0)=2",
            "ways(2,12)=7", "trail(0,5)=2", "page(3,4)=122", "count(7)=24", "image(1)=1", "restore(0)=STATE", "set(0,0,0)=NULL"};
        for (String call : last) {
            Run run = bounds.on(Bounds.RING + "p0;").times(490, "follow(0)").does(call);
            bounds.due("calls in all", run.calls(), 512);
        }
        bounds.fresh().times(511, "feed(256)=BAD").does("feed(0)=1");
        bounds.fresh().times(511, "row(0,0,40)=40").does("drop(0)=40");
        bounds.on(Bounds.EIGHT + "p0;").times(480, "image(0)=1").does("restore(0)=1");
    }

    private static void numbersFromZero() {
        bounds.says("Numbers go from 0 on.");
        bounds.on(Bounds.PAGES + "p1;s3;").does("row(0,0,1)=1 ask(0,0)=2 follow(0)=2")
            .still("page(0,0)=2 page(-1,0)=BAD page(4,0)=1 page(5,0)=BAD")
            .still("kind(0)=1 kind(-1)=BAD kind(1)=2 kind(2)=BAD")
            .still("trail(0,0)=1 trail(0,-1)=BAD trail(0,1)=2 trail(0,2)=NONE")
            .still("trace(0)=11 trace(-1)=NONE set(0,-1,0)=PLACE set(-1,0,0)=BAD row(0,-1,0)=BAD")
            .still("follow(-1)=BAD select(-1)=BAD open(-1)=BAD image(-1)=BAD restore(-1)=BAD count(-1)=BAD");
        bounds.on(Bounds.PAGES + "p1;s3;")
            .does("select(0)=STATE select(1)=0 select(0)=1 follow(0)=2 open(0)=3 image(0)=1 restore(0)=1");
    }

    private static void cutTowardsZero() {
        bounds.says("All that is divided is cut towards 0, but fractions, told as two numbers in lowest terms (0 is 0 by "
            + "1).");
        // Page 1 is visited twice, page 2 once: of 5 these are 3 and a third, 1 and two thirds.
        bounds.on("w4;l1;l2;l1;l0;p0;").does("follow(0)=1 follow(0)=2 follow(0)=1")
            .still("share(1,5)=4 share(2,5)=1 share(1,2)=2 share(2,2)=0 share(1,3)=2 share(2,3)=1");
        bounds.on("w4;l0,1;l0,1;l2;l3;p0;")
            .still("chance(2,8,0)=0 chance(2,8,1)=1 chance(3,0,0)=0 chance(3,0,1)=1 chance(0,0,0)=1 chance(0,0,1)=1")
            .still("chance(0,1,0)=1 chance(0,1,1)=2 chance(1,8,0)=1 chance(1,8,1)=2");
    }

    private static void setsAreBits() {
        bounds.says("Sets are bits.");
        bounds.on("w8;l7;l7;l7;l7;l7;l7;l7;l7;p7;").tells(0, 7, 0).still("round(7)=128 round(0)=1 round(6)=64")
            .still("fits(7,0,0,1,0)=62 fits(7,0,0,1,1)=255 fits(7,0,0,1,2)=128 fits(7,0,1,1,2)=1 fits(7,0,0,1,3)=255")
            .still("fits(7,0,1,1,3)=0");
        bounds.on(Bounds.EIGHT + "p0;").still("round(0)=255 round(7)=255");
    }

    private static void badAheadOfOthers() {
        bounds.says("Refusals are answers, the first of these that fits, but as told: BAD (a number is not as told; there "
            + "is no such thing), STATE (as told), FULL (as told), then FINDINGS");
        badAheadOfState();
        badAheadOfFull();
        badAheadOfFindings();
    }

    private static void badAheadOfState() {
        bounds.fresh().still("image(2)=BAD image(-1)=BAD image(0)=STATE restore(2)=BAD restore(-1)=BAD restore(1)=STATE")
            .still("select(0)=BAD open(0)=BAD");
        bounds.on(Bounds.RING + "n0;p0;p0;p0;p0;").still("open(4)=BAD open(-1)=BAD open(3)=STATE")
            .still("follow(3)=BAD follow(-1)=BAD follow(0)=STATE follow(2)=STATE select(5)=BAD select(0)=STATE");
    }

    private static void stateAheadOfBad() {
        bounds.says("STATE: no WEB (ahead of BAD)");
        bounds.fresh().still("follow(0)=STATE follow(-1)=STATE follow(3)=STATE follow(LEAST)=STATE")
            .still("walk(0,0)=STATE walk(-1,0)=STATE walk(61,0)=STATE walk(0,-1)=STATE walk(0,3)=STATE")
            .still("drawn(0,1,0)=STATE drawn(-1,1,0)=STATE drawn(61,1,0)=STATE drawn(0,0,0)=STATE drawn(0,1000000,0)=STATE")
            .still("drawn(0,1,2)=STATE");
    }

    private static void badAheadOfFull() {
        bounds.fresh().times(80, "feed(0)").still("feed(256)=BAD feed(-1)=BAD feed(255)=FULL feed(0)=FULL");
    }

    private static void badAheadOfFindings() {
        bounds.on(Bounds.RING + "p0;").does("row(0,0,2)=2 row(1,1,2)=2")
            .still("row(8,0,-1)=BAD row(-1,0,-1)=BAD row(0,3,-1)=BAD row(0,-1,-1)=BAD")
            .still("set(8,-1,0)=BAD set(-1,40,0)=BAD drop(8)=BAD drop(-1)=BAD")
            .still("copy(8,0,7,0,1)=BAD copy(7,0,8,0,1)=BAD copy(0,-1,8,0,1)=BAD copy(-1,0,1,0,-1)=BAD")
            .still("copy(0,0,-1,0,1)=BAD")
            .still("fits(4,7,0,1,0)=BAD fits(-1,0,9,1,0)=BAD fits(0,8,9,1,0)=BAD fits(0,7,0,0,0)=BAD fits(0,7,0,13,0)=BAD")
            .still("fits(0,0,9,1,4)=BAD").still("as(1,5)=BAD as(-1,5)=BAD as(0,6)=BAD as(0,-1)=BAD");
    }

    private static void firstInTime() {
        bounds.says("then FINDINGS, of several the first in time");
        bounds.on(Bounds.RING + "p0;").does("row(0,0,2)=2 row(1,1,2)=2")
            .still("set(2,-1,0)=NULL set(2,0,0)=NULL fits(0,2,-1,1,0)=NULL fits(0,2,40,12,0)=NULL")
            .still("copy(2,-1,0,0,1)=NULL copy(0,0,2,3,1)=NULL copy(2,0,3,0,-1)=NULL")
            .still("copy(0,-1,1,0,1)=STORE copy(0,0,1,3,0)=STORE copy(1,0,0,0,-1)=STORE copy(1,0,0,0,3)=STORE");
    }

    private static void findingNumbers() {
        bounds.says("-1000010 less 1 NULL (a ROW that is missing), 2 PLACE (no such place of a ROW), 3 KIND (a TAB that is "
            + "not that), 4 SIZE (fewer than none), 5 STORE (ROWS of two LANES).");
        bounds.on(Bounds.RING + "p0;").does("row(0,0,2)=2 row(1,1,2)=2")
            .does("drop(2)=-1000011 status()=1 set(0,2,0)=-1000012 status()=2 as(0,2)=-1000013 status()=3")
            .does("row(0,0,-1)=-1000014 status()=4 copy(0,0,1,0,0)=-1000015 status()=5 set(0,0,-1000011)=-75 status()=0");
        bounds.due("NONE", TabTrails.NONE, -1000000);
        bounds.due("BAD", TabTrails.BAD, -1000001);
        bounds.due("STATE", TabTrails.STATE, -1000002);
        bounds.due("FULL", TabTrails.FULL, -1000003);
    }

    /** An object that has something of everything: rows, a tape, acts, closed tabs, an image, a trace, a finding. */
    private static Run everything() {
        return bounds.on(Bounds.PAGES + "p0;s1;n2;g0;").tells(0, 1, 2, 3, 4)
            .does("row(1,1,3)=3 row(7,0,0)=0 feed(119)=1 feed(50)=2")
            .does("follow(0)=1 follow(1)=0 image(1)=1 close()=0 follow(0)=2 select(1)=0 open(3)=4 back()=STATE select(0)=3")
            .does("back()=1").does("ask(0,0)=-4 as(0,5)=KIND");
    }

    private static void nothingChanges() {
        bounds.says("What is refused, or found, changes nothing but status().");
        everything().still("row(8,0,1)=BAD row(0,3,1)=BAD row(0,0,41)=BAD row(0,0,-1)=SIZE set(8,0,0)=BAD set(2,0,0)=NULL")
            .still("set(0,4,0)=PLACE set(7,0,0)=PLACE")
            .still("copy(0,0,8,0,1)=BAD copy(0,0,2,0,1)=NULL copy(0,0,1,0,1)=STORE copy(0,0,0,1,4)=PLACE")
            .still("copy(0,1,0,0,4)=PLACE drop(8)=BAD drop(2)=NULL")
            .still("feed(256)=BAD feed(-1)=BAD follow(3)=BAD follow(-1)=BAD back()=STATE")
            .still("select(4)=BAD select(0)=STATE open(5)=BAD tab(4,0)=BAD tab(0,4)=BAD trail(4,0)=BAD trail(0,-1)=BAD")
            .still("page(5,0)=BAD page(0,5)=BAD")
            .still("walk(61,0)=BAD walk(0,3)=BAD far(5,0)=BAD far(0,5)=BAD round(5)=BAD to(5,-1)=BAD to(0,-2)=BAD")
            .still("ways(5,0)=BAD ways(0,13)=BAD")
            .still("share(5,1)=BAD share(0,1000)=BAD fits(5,0,0,1,0)=BAD fits(0,0,0,0,0)=BAD fits(0,2,0,1,0)=NULL")
            .still("fits(0,0,4,1,0)=PLACE")
            .still("chance(5,0,0)=BAD chance(0,9,0)=BAD chance(0,0,2)=BAD drawn(61,1,0)=BAD drawn(1,0,0)=BAD")
            .still("drawn(1,1,2)=BAD image(2)=BAD")
            .still("restore(2)=BAD restore(0)=STATE kind(4)=BAD as(4,0)=BAD as(0,6)=BAD as(0,1)=0 as(0,4)=KIND")
            .still("ask(4,0)=BAD ask(0,2)=BAD count(9)=BAD");
        bounds.fresh().does("row(0,0,2)=2 feed(119)=1")
            .still("follow(0)=STATE back()=STATE forward()=STATE select(0)=BAD open(0)=BAD close()=STATE again()=STATE")
            .still("undo()=STATE image(0)=STATE restore(0)=STATE");
    }

    public static void main(String[] args) {
        callsInAll();
        numbersFromZero();
        cutTowardsZero();
        setsAreBits();
        badAheadOfOthers();
        stateAheadOfBad();
        firstInTime();
        findingNumbers();
        nothingChanges();
        bounds.end();
    }
}
