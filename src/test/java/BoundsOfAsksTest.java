/** Boundary cases of kinds and asks, promises 31 to 36, a test for each sentence. */
public final class BoundsOfAsksTest {
    private static final Bounds bounds = new Bounds();
    private static final String RING = Bounds.RING, PAGES = Bounds.PAGES, EIGHT = Bounds.EIGHT;

    private BoundsOfAsksTest() { }

    private static void kindsOfTabs() {
        bounds.says("KINDS of TABS: 0 TAB; 1 PLAIN, a TAB; 2 SHORT, a PLAIN; 3 PINNED, a PLAIN; 4 GUEST, a TAB; 5 KIOSK, a "
            + "GUEST.");
        bounds.on(PAGES + "p0;s1;n2;g0;k1;").still("as(0,0)=0 as(0,1)=0 as(0,2)=KIND as(0,3)=KIND as(0,4)=KIND as(0,5)=KIND")
            .still("as(1,0)=1 as(1,1)=1 as(1,2)=1 as(1,3)=KIND as(1,4)=KIND as(1,5)=KIND")
            .still("as(2,0)=2 as(2,1)=2 as(2,2)=KIND as(2,3)=2 as(2,4)=KIND as(2,5)=KIND")
            .still("as(3,0)=3 as(3,1)=KIND as(3,2)=KIND as(3,3)=KIND as(3,4)=3 as(3,5)=KIND")
            .still("as(4,0)=4 as(4,1)=KIND as(4,2)=KIND as(4,3)=KIND as(4,4)=4 as(4,5)=4");
    }

    private static void bodies() {
        bounds.says("ASKS of TABS (their places in the row), by BODIES, each of which leaves its number in THE TRACE as it "
            + "begins (the first 16)");
        // The longest trail of the longest row, at the last place and at the first.
        Run run = bounds.on(EIGHT + "p0;s0;n0;g0;p7;").does("select(4)=0").times(6, "follow(0)").does("count(4)=5");
        run.does("ask(4,0)=15").trace(11, 10, 21, 20).does("ask(4,1)=9").trace(21, 20);
        run.does("select(1)=4").times(3, "follow(0)").does("ask(1,0)=-11").trace(12, 11, 10, 24, 21, 20).does("ask(1,1)=8")
            .trace(24, 21, 20);
        run.does("ask(2,0)=-997").trace(11, 10, 22, 21, 20).does("ask(2,1)=-998").trace(22, 21, 20);
        run.does("ask(3,0)=-99").trace(13, 10).does("ask(3,1)=102").trace(23, 20, 13, 10);
        Run kiosk = bounds.on(EIGHT + "k7;p0;").does("follow(0)=0 follow(0)=1 ask(0,0)=-194").trace(14, 13, 10)
            .does("ask(0,1)=194").trace(23, 20, 14, 13, 10);
        kiosk.does("follow(0)=7 ask(0,0)=-198 ask(0,1)=198");
        Run first = bounds.on(EIGHT + "n0;p0;").does("ask(0,0)=-999 ask(0,1)=-1000").trace(22, 21, 20);
        first.does("ask(1,0)=2 ask(1,1)=1").trace(21, 20).still("trace(16)=NONE trace(15)=NONE");
    }

    private static void nearestKind() {
        bounds.says("(Of an ask the BODY told for the KIND begins, else that of the nearest KIND that it is, too, else the "
            + "one that is lent; SIZE, MARK within others are asked of the same TAB anew.)");
        // No body of SIZE is told for pinned ones, and none of MARK for kiosks.
        bounds.on(PAGES + "k1;n2;").does("ask(1,0)=-996").trace(11, 10, 22, 21, 20).does("ask(0,1)=198")
            .trace(23, 20, 14, 13, 10);
        // MARK within SIZE is the short one's own, SIZE within MARK the guest's own.
        bounds.on(PAGES + "s3;g2;").does("ask(0,0)=-7").trace(12, 11, 10, 24, 21, 20).does("ask(1,1)=100")
            .trace(23, 20, 13, 10);
        bounds.on(PAGES + "s0;s4;").does("ask(1,0)=-11 ask(1,1)=10 ask(0,0)=-1 ask(0,1)=0");
    }

    private static void kindPromise() {
        bounds.says("The KIND of a TAB, as told (1 to 5). BAD.");
        bounds.fresh().still("kind(0)=BAD");
        bounds.on(RING + "k0;g0;n0;s0;")
            .still("kind(0)=5 kind(1)=4 kind(2)=3 kind(3)=2 kind(4)=BAD kind(-1)=BAD kind(MOST)=BAD kind(LEAST)=BAD")
            .does("open(0)=5").still("kind(4)=1 kind(5)=BAD").does("close()=3").still("kind(4)=BAD");
    }

    private static void asPromise() {
        bounds.says("A TAB is taken as one of a KIND (0 .. 5): its place in the row. BAD; KIND: it is no such one.");
        bounds.fresh().still("as(0,0)=BAD as(0,6)=BAD");
        bounds.on(RING + "p0;k0;")
            .still("as(0,0)=0 as(1,5)=1 as(0,5)=KIND as(1,1)=KIND as(2,0)=BAD as(-1,0)=BAD as(0,6)=BAD as(0,-1)=BAD")
            .still("as(2,6)=BAD as(MOST,0)=BAD as(LEAST,0)=BAD as(0,MOST)=BAD as(0,LEAST)=BAD").does("close()=0")
            .still("as(0,5)=0 as(1,5)=BAD");
    }

    private static void askPromise() {
        bounds.says("An ASK (0, 1) of a TAB. BAD. THE TRACE is empty ahead of it.");
        bounds.fresh().still("ask(0,0)=BAD ask(0,1)=BAD trace(0)=NONE");
        bounds.on(RING + "s1;k0;").does("ask(0,0)=-3").trace(12, 11, 10, 24, 21, 20)
            .still("ask(2,0)=BAD ask(-1,0)=BAD ask(0,2)=BAD ask(0,-1)=BAD ask(2,2)=BAD ask(MOST,0)=BAD ask(LEAST,1)=BAD")
            .still("ask(0,MOST)=BAD ask(0,LEAST)=BAD").trace(12, 11, 10, 24, 21, 20).does("ask(1,0)=-198").trace(14, 13, 10)
            .does("ask(1,0)=-198").trace(14, 13, 10).does("trace(3)=NONE trace(4)=NONE trace(5)=NONE");
    }

    private static void tracePromise() {
        bounds.says("Number i of THE TRACE; NONE.");
        bounds.fresh()
            .still("trace(0)=NONE trace(-1)=NONE trace(15)=NONE trace(16)=NONE trace(MOST)=NONE trace(LEAST)=NONE");
        bounds.on(RING + "s1;").still("trace(0)=NONE").does("ask(0,0)=-3")
            .still("trace(0)=12 trace(5)=20 trace(6)=NONE trace(15)=NONE trace(16)=NONE trace(-1)=NONE trace(MOST)=NONE")
            .still("trace(LEAST)=NONE").does("follow(0)=2 undo()=0 image(0)=1 restore(0)=1").trace(12, 11, 10, 24, 21, 20);
    }

    private static void countPromise() {
        bounds.says("How many: 0 ROWS, 1 PAGES, 2 TABS, 3 which TAB is NOW, 4 the PAGE that it SHOWS (0 without a WEB), 5 "
            + "TABS that are CLOSED, 6 how often all PAGES were VISITED, together, 7 ACTS that can be undone, 8 bytes on "
            + "the tape. BAD.");
        bounds.fresh()
            .still("count(0)=0 count(1)=0 count(2)=0 count(3)=0 count(4)=0 count(5)=0 count(6)=0 count(7)=0 count(8)=0")
            .still("count(9)=BAD count(-1)=BAD count(MOST)=BAD count(LEAST)=BAD");
        Run run = bounds.on(EIGHT + "p7;p6;p5;p4;p3;");
        for (int row = 0; row < 8; row++) {
            run.does("row(" + row + ",0,0)=0");
        }
        run.times(21, "follow(0)").does("select(4)=0 count(3)=4 count(4)=3 close()=3 close()=2 close()=1 close()=0")
            .times(80, "feed(0)")
            .still("count(0)=8 count(1)=8 count(2)=1 count(3)=0 count(4)=4 count(5)=3 count(6)=21 count(7)=24 count(8)=80")
            .still("count(9)=BAD count(-1)=BAD");
    }

    private static void statusPromise() {
        bounds.says("Of the latest call with a ROW, or as(), that was not BAD, STATE, FULL: the number of its FINDING");
        Run run = bounds.on(RING + "p0;").does("status()=0 row(0,0,-1)=SIZE status()=4");
        run.does("row(0,0,41)=BAD status()=4 set(8,0,0)=BAD status()=4 copy(8,0,0,0,0)=BAD status()=4 drop(8)=BAD")
            .does("status()=4 fits(0,0,0,0,0)=BAD status()=4 as(0,6)=BAD status()=4")
            .does("follow(2)=STATE status()=4 select(0)=STATE status()=4 restore(0)=STATE status()=4 kind(9)=BAD")
            .does("status()=4");
        run.does("as(0,1)=0 status()=0 as(0,2)=KIND status()=3 drop(0)=NULL status()=1 row(0,0,1)=1 status()=0")
            .does("set(0,1,0)=PLACE status()=2 set(0,0,0)=0 status()=0")
            .does("copy(0,0,1,0,0)=NULL status()=1 copy(0,0,0,0,1)=1 status()=0 copy(0,0,0,0,2)=PLACE status()=2")
            .does("row(1,1,1)=1 copy(0,0,1,0,1)=STORE status()=5 drop(1)=1 status()=0")
            .does("fits(0,1,0,1,0)=NULL status()=1 fits(0,0,0,1,0)=0 status()=0 fits(0,0,1,1,0)=PLACE status()=2");
        run.does("follow(0)=1 status()=2 back()=0 status()=2 open(0)=2 status()=2 close()=0 status()=2 ask(0,0)=2")
            .does("status()=2 image(0)=1 status()=2 restore(0)=1 status()=2 status()=2")
            .does("walk(3,0)=3 far(0,1)=1 round(0)=15 to(1,-1)=1 ways(0,1)=1 share(0,1)=1 chance(0,0,0)=1 drawn(1,1,0)=1")
            .does("count(0)=1 trace(0)=11 kind(0)=1 status()=2");
        run.reads("w9;", -1000101).does("status()=2").reads(RING + "p0;", 1).does("status()=2").times(80, "feed(0)")
            .does("feed(0)=FULL status()=2");
        bounds.says("0: it had none, or there was none.");
        bounds.fresh().does("status()=0 follow(0)=STATE status()=0 row(8,0,0)=BAD status()=0 row(0,0,0)=0 status()=0");
    }

    public static void main(String[] args) {
        kindsOfTabs();
        bodies();
        nearestKind();
        kindPromise();
        asPromise();
        askPromise();
        tracePromise();
        countPromise();
        statusPromise();
        bounds.end();
    }
}
