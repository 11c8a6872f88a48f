import java.io.IOException;
import java.lang.reflect.Constructor;
import java.lang.reflect.Field;
import java.lang.reflect.Method;
import java.lang.reflect.Modifier;
import java.nio.file.Files;
import java.nio.file.Path;
import java.util.Arrays;
import java.util.TreeSet;

/** The document from its first line on: what the class is, its face, and the sentences that name no boundary. */
public final class DocumentTest {
    private static final Path SOURCE = Path.of("src/main/java/TabTrails.java");
    private static final String FACE = """
        public final class TabTrails {
            public static final int NONE = -1000000, BAD = -1000001, STATE = -1000002, FULL = -1000003;
            public TabTrails();
            public int row(int row, int lane, int n);
            public int set(int row, int i, int v);
            public int copy(int a, int i, int b, int j, int n);
            public int drop(int row);
            public int feed(int letter);
            public int web();
            public int fault();
            public int follow(int j);
            public int back();
            public int forward();
            public int select(int tab);
            public int open(int page);
            public int close();
            public int again();
            public int undo();
            public int tab(int tab, int what);
            public int trail(int tab, int k);
            public int page(int page, int what);
            public int walk(int n, int j);
            public int far(int from, int to);
            public int round(int page);
            public int to(int page, int k);
            public int ways(int page, int n);
            public int share(int page, int n);
            public int fits(int page, int row, int i, int n, int what);
            public int chance(int page, int n, int what);
            public int drawn(int n, int seed, int what);
            public int image(int k);
            public int restore(int k);
            public int kind(int tab);
            public int as(int tab, int kind);
            public int ask(int tab, int what);
            public int trace(int i);
            public int count(int what);
            public int status();
        }
        """;
    private static final String[] PARTS = {
        "---- rows", "row", "set", "copy", "drop",
        "---- webs, acts", "feed", "web", "fault", "follow", "back", "forward", "select", "open", "close", "again", "undo",
        "tab", "trail", "page",
        "---- foretold", "walk", "far", "round", "to", "ways", "share", "fits", "chance", "drawn", "image", "restore",
        "---- asked", "kind", "as", "ask", "trace", "count", "status"};

    private static final Bounds bounds = new Bounds();
    private static final String RING = Bounds.RING, PAGES = Bounds.PAGES;

    private DocumentTest() { }

    // ---- what it is

    private static void pagesAndTabs() {
        bounds.says("a few pages linked to one another, and tabs in a row");
        bounds.on(PAGES + "p3;s0;p4;").does("count(1)=5 count(2)=3 tab(0,0)=3 tab(1,0)=0 tab(2,0)=4 page(1,0)=3 page(1,3)=3");
        bounds.says("each with a trail of the pages that it showed");
        bounds.on(PAGES + "p0;p4;").does("follow(0)=1 follow(1)=0 follow(1)=2").trail(0, 0, 1, 0, 2).trail(1, 4);
    }

    private static void kinds() {
        bounds.says("tabs of kinds, plain ones");
        bounds.on(RING + "p0;").does("kind(0)=1").times(5, "follow(0)").trail(0, 0, 1, 2, 3, 0, 1);
        bounds.says("ones that remember little");
        bounds.on(RING + "s0;").does("kind(0)=2").times(5, "follow(0)").trail(0, 3, 0, 1);
        bounds.says("pinned ones that open beside them what is followed");
        bounds.on(RING + "n0;p3;").does("kind(0)=3 follow(0)=1 count(3)=1 kind(1)=1 tab(1,1)=1 tab(2,0)=3").trail(0, 0);
        bounds.says("guests that are forgotten when they are closed");
        bounds.on(RING + "g0;p3;").does("kind(0)=4 close()=0 count(5)=0 again()=STATE kind(0)=1");
        bounds.says("kiosks that go home");
        bounds.on(RING + "k2;").does("kind(0)=5 follow(0)=3 follow(0)=0 follow(0)=2").trail(0, 2);
        bounds.says("told in a text");
        bounds.fresh().does("feed(119)=1 feed(50)=2 feed(59)=3 feed(108)=4 feed(49)=5 feed(59)=6 feed(108)=7 feed(48)=8")
            .does("feed(59)=9 feed(107)=10 feed(49)=11 feed(59)=12 web()=1 kind(0)=5 tab(0,0)=1 page(0,1)=1 page(1,1)=0");
    }

    private static void acts() {
        bounds.says("links followed, back, forward, tabs selected, opened, closed, opened again, undone");
        bounds.on(RING + "p0;p2;").does("follow(0)=1 back()=0 forward()=1 select(1)=0 open(3)=3 close()=1 again()=3")
            .does("count(7)=7 undo()=6 undo()=5 undo()=4 undo()=3 undo()=2 undo()=1 undo()=0 undo()=STATE").trail(0, 0);
    }

    private static void foretold() {
        bounds.says("where links lead, how far pages are from one another, which lie in one round");
        bounds.on(PAGES + "p0;").still("walk(1,1)=2 walk(2,0)=2 page(0,2)=2 far(0,4)=3 far(2,0)=NONE round(0)=3 round(4)=16");
        bounds.says("the fewest presses to a page, in how many ways one comes there");
        bounds.on(PAGES + "p0;").does("follow(0)=1").still("to(0,-1)=1 to(0,0)=0 to(4,-1)=2 to(4,0)=4 to(4,1)=2 to(4,2)=NONE")
            .still("ways(3,1)=1 ways(4,2)=2 ways(4,3)=4");
        bounds.says("shares by visits");
        bounds.on(PAGES + "p0;").does("follow(0)=1 follow(1)=0 follow(0)=1").still("share(1,9)=6 share(0,9)=3 share(2,9)=0");
        bounds.says("how likely a walk ends where");
        bounds.on(PAGES + "p0;").still("chance(2,1,0)=1 chance(2,1,1)=2 chance(3,2,0)=2 chance(3,2,1)=3");
        bounds.says("evenings by draws");
        // 16807, then 282475249 and 1622650073, leave 0, 0 and 2 by 7: two links 0, and a link 2 that page 2 has not.
        bounds.on(RING + "p0;").still("drawn(1,1,0)=1 drawn(1,1,1)=1 drawn(2,1,0)=2 drawn(2,1,1)=2 drawn(3,1,0)=2 drawn(3,1,1)=2");
        bounds.says("images");
        bounds.on(RING + "p0;").does("follow(0)=1 image(0)=1 follow(0)=2 restore(0)=1 count(4)=1 count(6)=1 undo()=STATE");
    }

    private static void guesses() {
        bounds.says("of which kind a tab is, where it began, where a link leads, where home is, by what was shown");
        // A kiosk that has shown 0, 1, 2 goes home; any other goes on to 3.
        bounds.on(RING + "k0;").does("follow(0)=1 follow(0)=2").tells(0, 0).tells(1, 3)
            .still("fits(0,0,0,1,0)=32 fits(0,1,0,1,0)=30 fits(0,0,0,1,3)=1 fits(0,1,0,1,3)=8");
        bounds.on(RING + "p0;").tells(0, 2, 3).still("fits(0,0,0,2,1)=2 fits(0,0,0,2,2)=4 fits(1,0,0,2,2)=0");
        bounds.says("SORTS (what = 0), STARTS (1), LEADS of a PAGE (2), HOMES (3) by what is SHOWN, n ITEMS of a ROW from i on.");
        bounds.on(RING + "p3;").tells(5, 9, 0, 1, 9).still("fits(3,5,1,2,0)=62 fits(3,5,1,2,1)=8 fits(3,5,1,2,2)=1")
            .still("fits(0,5,1,2,2)=2 fits(3,5,1,2,3)=15 fits(3,5,0,2,0)=0 fits(3,5,2,2,3)=0 fits(3,5,1,1,0)=62");
    }

    // ---- the public face

    private static void face() throws IOException {
        bounds.says("## The public face");
        String source = Files.readString(SOURCE);
        TreeSet<String> told = new TreeSet<>();
        for (String line : FACE.lines().map(String::strip).toList()) {
            bounds.due("the document has \"" + line + "\"", Document.says(line) ? 1 : 0, 1);
            String head = line.matches("public .*\\);") ? line.replace(";", " {") : line;
            bounds.due("the class has \"" + line + "\"", source.contains(head) ? 1 : 0, 1);
            if (line.startsWith("public int")) {
                told.add(line.replaceAll("public int (\\w+)\\(.*", "$1"));
            }
        }
        bounds.due("as many methods as are told", told.size(), Calls.NAMES.length);
        bounds.due("every one that the tests call is told", told.equals(new TreeSet<>(Arrays.asList(Calls.NAMES))) ? 1 : 0, 1);
    }

    private static void members() throws IllegalAccessException {
        bounds.says("public final class TabTrails");
        bounds.due("public and final", TabTrails.class.getModifiers(), Modifier.PUBLIC | Modifier.FINAL);
        int constants = 0;
        for (Field field : TabTrails.class.getDeclaredFields()) {
            if (Modifier.isPublic(field.getModifiers())) {
                constants++;
                String value = field.getName() + " = " + field.getInt(null);
                bounds.due(value, FACE.contains(value) && field.getType() == int.class ? 1 : 0, 1);
            }
        }
        bounds.due("public constants", constants, 4);
        int methods = 0;
        for (Method method : TabTrails.class.getDeclaredMethods()) {
            if (Modifier.isPublic(method.getModifiers())) {
                methods++;
                boolean ints = Arrays.stream(method.getParameterTypes()).allMatch(type -> type == int.class);
                bounds.due(method + " takes and answers ints", ints && method.getReturnType() == int.class ? 1 : 0, 1);
                bounds.due(method + " tells no exception", method.getExceptionTypes().length, 0);
            }
        }
        bounds.due("public methods", methods, Calls.NAMES.length);
        Constructor<?>[] constructors = TabTrails.class.getDeclaredConstructors();
        bounds.due("constructors", constructors.length, 1);
        bounds.due("what it takes", constructors[0].getParameterCount(), 0);
    }

    /** The order of the calls, and what the interface says ahead of them. */
    private static void parts() throws IOException {
        bounds.says("Ahead of the calls `row`, `set`, `copy`, `drop` the interface says: ---- rows.");
        String source = Files.readString(SOURCE);
        int at = 0;
        for (String part : PARTS) {
            String wanted = part.startsWith("-") ? "    // " + part + "\n" : "    public int " + part + "(";
            int next = source.indexOf(wanted, at);
            bounds.due(part + " is in its place", next > at ? 1 : 0, 1);
            at = Math.max(at, next);
        }
    }

    // ---- terms

    private static void followed() {
        bounds.says("FOLLOWED is a LINK of the PAGE that NOW SHOWS");
        // Neither the page that came last into the trail nor another tab's page counts.
        bounds.on(PAGES + "p2;p1;").does("follow(0)=3 back()=2 follow(1)=STATE follow(0)=3 follow(1)=4 back()=3 back()=2")
            .does("follow(1)=STATE select(1)=0 follow(2)=3 back()=1 follow(1)=0").trail(0, 2, 3, 4).trail(1, 1, 0);
    }

    private static void askedByKind() {
        bounds.says("By this it is asked.");
        bounds.on(PAGES + "p0;s0;n0;g0;k0;").does("ask(0,0)=1").trace(11, 10, 21, 20).does("ask(1,0)=-3").trace(12, 11, 10, 24, 21, 20)
            .does("ask(2,0)=-997").trace(11, 10, 22, 21, 20).does("ask(3,0)=-99").trace(13, 10).does("ask(4,0)=-198").trace(14, 13, 10)
            .does("ask(0,1)=0").trace(21, 20).does("ask(1,1)=2").trace(24, 21, 20).does("ask(2,1)=-998").trace(22, 21, 20)
            .does("ask(3,1)=102").trace(23, 20, 13, 10).does("ask(4,1)=202").trace(23, 20, 14, 13, 10);
    }

    private static void bodiesOfSize() {
        bounds.says("0 SIZE: 10 lent to all TABS: how many PAGES its TRAIL has.");
        Run guest = bounds.on(RING + "g0;").does("ask(0,0)=-99 follow(0)=1 ask(0,0)=-98 back()=0 ask(0,0)=-98").trace(13, 10);
        guest.does("follow(1)=0 ask(0,0)=-98").times(9, "follow(1)").does("ask(0,0)=-94");
        bounds.says("11 of PLAIN ones: what 10 gives, and MARK.");
        bounds.on(RING + "p2;p3;").does("ask(1,0)=5").trace(11, 10, 21, 20).does("ask(0,0)=3");
        bounds.says("12 of SHORT ones: 0 less what 11 gives.");
        bounds.on(RING + "s2;s3;").does("ask(1,0)=-9").trace(12, 11, 10, 24, 21, 20).does("ask(0,0)=-5");
        bounds.says("13 of GUESTS: what 10 gives, less 100.");
        bounds.on(RING + "p2;g3;").does("ask(1,0)=-99").trace(13, 10);
        bounds.says("14 of KIOSKS: what 13 gives, twice.");
        bounds.on(RING + "k3;").does("ask(0,0)=-198 follow(0)=0 ask(0,0)=-196 follow(0)=1 ask(0,0)=-194").trace(14, 13, 10);
    }

    private static void bodiesOfMark() {
        bounds.says("1 MARK: 20 lent to all TABS: its place in the row.");
        bounds.on(RING + "p0;p0;p0;p0;p0;").does("ask(0,1)=0 ask(1,1)=1 ask(2,1)=2 ask(3,1)=3 ask(4,1)=4").trace(21, 20);
        bounds.says("21 of PLAIN ones: what 20 gives, and the PAGE that is SHOWN.");
        bounds.on(RING + "p2;p3;").does("ask(1,1)=4").trace(21, 20).does("follow(0)=3 ask(0,1)=3 back()=2 ask(0,1)=2");
        bounds.says("22 of PINNED ones: what 21 gives, less 1000.");
        bounds.on(RING + "p2;n3;").does("ask(1,1)=-996").trace(22, 21, 20);
        bounds.says("23 of GUESTS: what 20 gives, less SIZE.");
        bounds.on(RING + "p2;g3;k3;").does("ask(1,1)=100").trace(23, 20, 13, 10).does("ask(2,1)=200").trace(23, 20, 14, 13, 10);
        bounds.says("24 of SHORT ones: what 21 gives, twice.");
        bounds.on(RING + "p2;s3;").does("ask(1,1)=8").trace(24, 21, 20);
    }

    /** Two objects, whose calls come in turns, answer as each does alone: nothing is shared between them. */
    private static void objectsForThemselves() {
        bounds.says("Nothing is promised beyond the answers and state changes described above");
        Run one = bounds.on(RING + "p0;");
        Run other = bounds.on(PAGES + "k1;s4;");
        one.does("follow(0)=1 row(0,0,3)=3 image(0)=1 ask(0,0)=3 feed(1)=1");
        other.does("follow(0)=2 row(0,2,9)=9 image(0)=1 ask(0,0)=-196 fits(0,1,0,1,0)=NULL");
        one.does("status()=0 count(6)=1 count(8)=1 drop(0)=3").trace(11, 10, 21, 20).trail(0, 0, 1);
        other.does("status()=1 count(6)=1 count(8)=0 count(0)=1 restore(0)=1 count(1)=5").trace(14, 13, 10).trail(0, 1, 2);
        one.does("restore(0)=1 count(1)=4 count(0)=0 fault()=0");
    }

    public static void main(String[] args) throws IOException, IllegalAccessException {
        pagesAndTabs();
        kinds();
        acts();
        foretold();
        guesses();
        face();
        members();
        parts();
        followed();
        askedByKind();
        bodiesOfSize();
        bodiesOfMark();
        objectsForThemselves();
        bounds.end();
    }
}
