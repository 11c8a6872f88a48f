/** Boundary cases of rows, promises 1 to 5, a test for each sentence. */
public final class BoundsOfRowsTest {
    private static final Bounds bounds = new Bounds();
    /** Page 0 leads to itself, so a row of zeros tells what is shown by every kind. */
    private static final String ZEROS = "w2;l0;l1;p0;";

    private BoundsOfRowsTest() { }

    private static void newObject() {
        bounds.says("`TabTrails()`: No WEB.");
        bounds.fresh()
            .does("count(0)=0 count(1)=0 count(2)=0 count(3)=0 count(4)=0 count(5)=0 count(6)=0 count(7)=0 count(8)=0")
            .does("status()=0 fault()=0")
            .still("page(0,0)=BAD tab(0,0)=BAD trail(0,0)=BAD kind(0)=BAD as(0,0)=BAD ask(0,0)=BAD trace(0)=NONE")
            .still("follow(0)=STATE back()=STATE forward()=STATE close()=STATE again()=STATE undo()=STATE select(0)=BAD")
            .still("open(0)=BAD")
            .still("walk(0,0)=STATE drawn(0,1,0)=STATE far(0,0)=BAD round(0)=BAD to(0,-1)=BAD ways(0,0)=BAD share(0,0)=BAD")
            .still("chance(0,0,0)=BAD")
            .still("image(0)=STATE image(1)=STATE restore(0)=STATE restore(1)=STATE fits(0,0,0,1,0)=BAD");
    }

    private static void missingAtFirst() {
        bounds.says("ROWS 0 .. 7 are missing (at first)");
        Run run = bounds.on(ZEROS);
        for (int row = 0; row < 8; row++) {
            String told = Integer.toString(row);
            run.still("set(R,0,0)=NULL drop(R)=NULL fits(0,R,0,1,0)=NULL copy(R,0,R,0,0)=NULL".replace("R", told));
        }
        run.still("set(8,0,0)=BAD drop(8)=BAD fits(0,8,0,1,0)=BAD copy(8,0,8,0,0)=BAD row(8,0,0)=BAD")
            .still("set(-1,0,0)=BAD drop(-1)=BAD fits(0,-1,0,1,0)=BAD copy(-1,0,-1,0,0)=BAD row(-1,0,0)=BAD")
            .still("set(MOST,0,0)=BAD drop(LEAST)=BAD row(LEAST,0,0)=BAD row(MOST,0,0)=BAD count(0)=0");
        for (int row = 0; row < 8; row++) {
            run.does("row(" + row + ",0,1)=1 count(0)=" + (row + 1));
        }
    }

    private static void lanes() {
        bounds.says("or have a LANE (0 bytes, 1 shorts, 2 ints)");
        bounds.fresh().does("row(0,0,1)=1 row(1,1,1)=1 row(2,2,1)=1")
            .still("row(3,-1,1)=BAD row(3,3,1)=BAD row(3,LEAST,1)=BAD row(3,MOST,1)=BAD row(0,3,1)=BAD count(0)=3")
            .still("copy(0,0,1,0,1)=STORE copy(1,0,2,0,1)=STORE copy(2,0,0,0,1)=STORE copy(0,0,0,0,1)=1 copy(1,0,1,0,1)=1")
            .still("copy(2,0,2,0,1)=1");
    }

    private static void howManyItems() {
        bounds.says("and 0 to 40 ITEMS, 0 at first");
        bounds.on(ZEROS).does("row(0,2,0)=0")
            .still("set(0,0,1)=PLACE fits(0,0,0,1,0)=PLACE copy(0,0,0,0,0)=0 copy(0,0,0,0,1)=PLACE")
            .does("row(0,2,1)=1 set(0,0,5)=5").still("set(0,1,5)=PLACE set(0,-1,5)=PLACE fits(0,0,0,2,0)=PLACE");
        Run run = bounds.on(ZEROS).does("row(0,2,40)=40")
            .still("set(0,40,1)=PLACE row(0,2,41)=BAD row(0,2,-1)=SIZE row(1,2,41)=BAD row(1,2,-1)=SIZE")
            .still("fits(0,0,0,12,0)=62 fits(0,0,12,12,0)=62 fits(0,0,24,12,0)=62 fits(0,0,28,12,0)=62")
            .still("fits(0,0,29,12,0)=PLACE");
        run.twin().does("set(0,0,1)=1").still("fits(0,0,0,1,0)=0 fits(0,0,1,12,0)=62").does("row(0,2,40)=40")
            .still("fits(0,0,0,1,0)=62");
        run.twin().does("set(0,39,1)=1").still("fits(0,0,39,1,0)=0 fits(0,0,27,12,0)=62").does("row(0,2,1)=1 row(0,2,40)=40")
            .still("fits(0,0,39,1,0)=62");
        run.twin().does("set(0,39,1)=1 set(0,0,1)=1 drop(0)=40 row(0,1,40)=40")
            .still("fits(0,0,39,1,0)=62 fits(0,0,0,1,0)=62");
    }

    private static void rowPromise() {
        bounds.says("A ROW of a LANE with n ITEMS, in place of what is there: n.");
        bounds.on(ZEROS).does("row(7,0,2)=2 set(7,1,200)=-56 row(7,1,3)=3 count(0)=1 set(7,2,200)=200 set(7,2,40000)=-25536")
            .does("row(7,2,1)=1 set(7,0,40000)=40000").still("set(7,1,0)=PLACE").does("row(7,2,0)=0 count(0)=1")
            .still("set(7,0,0)=PLACE");
        bounds.says("BAD: ROW, LANE, n above 40; SIZE.");
        bounds.fresh().does("row(0,0,40)=40")
            .still("row(8,0,1)=BAD row(-1,0,1)=BAD row(0,-1,1)=BAD row(0,3,1)=BAD row(0,0,41)=BAD row(0,0,MOST)=BAD")
            .still("row(0,0,-1)=SIZE row(0,2,LEAST)=SIZE row(7,1,-1)=SIZE row(8,0,41)=BAD row(8,3,-1)=BAD");
    }

    private static void setPromise() {
        bounds.says("ITEM i becomes v, its lowest bits, as many as the LANE has: what it is then.");
        bounds.fresh().does("row(0,0,1)=1 row(1,1,1)=1 row(2,2,1)=1")
            .does("set(0,0,127)=127 set(0,0,128)=-128 set(0,0,255)=-1 set(0,0,256)=0 set(0,0,-128)=-128 set(0,0,-129)=127")
            .does("set(0,0,-256)=0").does("set(0,0,MOST)=-1 set(0,0,LEAST)=0 set(0,0,32767)=-1 set(0,0,383)=127")
            .does("set(1,0,32767)=32767 set(1,0,32768)=-32768 set(1,0,65535)=-1 set(1,0,65536)=0 set(1,0,-32768)=-32768")
            .does("set(1,0,-32769)=32767").does("set(1,0,MOST)=-1 set(1,0,LEAST)=0 set(1,0,128)=128 set(1,0,255)=255")
            .does("set(2,0,MOST)=MOST set(2,0,LEAST)=LEAST set(2,0,-1)=-1 set(2,0,32768)=32768 set(2,0,65536)=65536")
            .does("set(2,0,0)=0");
        // What is kept is the number that was cut, too: 257 tells page 1, 65537 page 1.
        bounds.on("w2;l1;l0;p0;")
            .does("row(0,0,1)=1 set(0,0,257)=1 fits(0,0,0,1,1)=1 set(0,0,256)=0 fits(0,0,0,1,1)=2 set(0,0,128)=-128")
            .does("fits(0,0,0,1,1)=0")
            .does("row(0,1,1)=1 set(0,0,65537)=1 fits(0,0,0,1,1)=1 set(0,0,257)=257 fits(0,0,0,1,1)=0")
            .does("row(0,2,1)=1 set(0,0,65537)=65537 fits(0,0,0,1,1)=0 set(0,0,LEAST)=LEAST fits(0,0,0,1,1)=0");
        bounds.says("BAD: ROW; NULL; PLACE.");
        bounds.fresh().does("row(0,0,2)=2 row(7,2,40)=40 row(3,1,0)=0")
            .still("set(8,0,0)=BAD set(-1,0,0)=BAD set(1,0,0)=NULL set(1,-1,0)=NULL set(0,2,0)=PLACE set(0,-1,0)=PLACE")
            .still("set(0,MOST,0)=PLACE set(0,LEAST,0)=PLACE").still("set(7,40,0)=PLACE set(3,0,0)=PLACE")
            .does("set(7,39,1)=1 set(7,0,1)=1 set(0,1,1)=1 set(0,0,1)=1");
    }

    private static void copyPromise() {
        bounds.says("n ITEMS of a from i on come to b from j on, as they were ahead: n.");
        // Each item is seen by where link 0 of page 0, that is shown, might lead.
        Run run = bounds.on(Bounds.EIGHT + "p0;").tells(0, 1, 2, 3, 4, 5).tells(1, 0, 0, 0);
        run.twin().does("copy(0,0,0,1,4)=4 fits(0,0,0,1,2)=2 fits(0,0,1,1,2)=2 fits(0,0,2,1,2)=4 fits(0,0,3,1,2)=8")
            .does("fits(0,0,4,1,2)=16");
        run.twin().does("copy(0,1,0,0,4)=4 fits(0,0,0,1,2)=4 fits(0,0,1,1,2)=8 fits(0,0,2,1,2)=16 fits(0,0,3,1,2)=32")
            .does("fits(0,0,4,1,2)=32");
        run.twin().does("copy(0,3,0,0,2)=2 fits(0,0,0,1,2)=16 fits(0,0,1,1,2)=32 fits(0,0,2,1,2)=8");
        run.twin().does("copy(0,2,1,0,3)=3 fits(0,1,0,1,2)=8 fits(0,1,1,1,2)=16 fits(0,1,2,1,2)=32 fits(0,0,0,1,2)=2");
        run.twin().does("copy(0,4,1,2,1)=1 fits(0,1,1,1,2)=1 fits(0,1,2,1,2)=32");
        run.still("copy(0,0,0,0,5)=5 copy(0,0,1,0,0)=0 copy(0,5,1,3,0)=0 copy(0,5,0,5,0)=0");
        bounds.fresh().does("row(0,1,40)=40 row(1,1,40)=40 copy(0,0,1,0,40)=40")
            .still("copy(0,0,1,0,41)=PLACE copy(0,1,1,0,40)=PLACE copy(0,0,1,1,40)=PLACE");
        bounds.says("BAD: ROWS; NULL; STORE; PLACE (i, j, n below 0, or beyond an end).");
        bounds.on(Bounds.EIGHT + "p0;").tells(0, 1, 2, 3, 4, 5).tells(1, 0, 0, 0).does("row(2,0,5)=5")
            .still("copy(8,0,0,0,0)=BAD copy(0,0,8,0,0)=BAD copy(-1,0,0,0,0)=BAD copy(0,0,-1,0,0)=BAD")
            .still("copy(3,0,0,0,0)=NULL copy(0,0,3,0,0)=NULL copy(3,0,3,0,0)=NULL copy(0,0,2,0,0)=STORE")
            .still("copy(2,0,0,0,5)=STORE")
            .still("copy(0,-1,1,0,1)=PLACE copy(0,0,1,-1,1)=PLACE copy(0,0,1,0,-1)=PLACE copy(0,-1,1,0,0)=PLACE")
            .still("copy(0,0,1,-1,0)=PLACE")
            .still("copy(0,3,1,0,3)=PLACE copy(0,0,1,1,3)=PLACE copy(0,0,1,0,4)=PLACE copy(0,6,1,0,0)=PLACE")
            .still("copy(0,0,1,4,0)=PLACE copy(0,5,1,0,1)=PLACE copy(0,0,1,3,1)=PLACE")
            .still("copy(0,MOST,1,0,1)=PLACE copy(0,0,1,MOST,1)=PLACE copy(0,1,1,1,MOST)=PLACE")
            .still("copy(0,MOST,1,MOST,MOST)=PLACE copy(0,LEAST,1,LEAST,LEAST)=PLACE");
    }

    private static void dropPromise() {
        bounds.says("A ROW is missing from now on: how many ITEMS it had. BAD; NULL.");
        bounds.fresh().does("row(0,0,0)=0 row(7,2,40)=40 count(0)=2")
            .still("drop(8)=BAD drop(-1)=BAD drop(MOST)=BAD drop(LEAST)=BAD drop(1)=NULL").does("drop(0)=0 count(0)=1")
            .still("drop(0)=NULL set(0,0,0)=NULL").does("drop(7)=40 count(0)=0")
            .still("drop(7)=NULL set(7,0,0)=NULL copy(7,0,7,0,0)=NULL").does("row(7,0,1)=1 count(0)=1 drop(7)=1");
    }

    public static void main(String[] args) {
        newObject();
        missingAtFirst();
        lanes();
        howManyItems();
        rowPromise();
        setPromise();
        copyPromise();
        dropPromise();
        bounds.end();
    }
}
