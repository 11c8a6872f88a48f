/** A call by its number, made of TabTrails or of the model. */
final class Calls {
    static final String[] NAMES = {
        "row", "set", "copy", "drop", "feed", "web", "fault", "follow", "back", "forward", "select", "open", "close",
        "again", "undo", "tab", "trail", "page", "walk", "far", "round", "to", "ways", "share", "fits", "chance",
        "drawn", "image", "restore", "kind", "as", "ask", "trace", "count", "status"};

    private Calls() { }

    static int of(String name) {
        return java.util.Arrays.asList(NAMES).indexOf(name);
    }

    static int ofProgram(TabTrails x, int call, int[] v) {
        switch (NAMES[call]) {
            case "row": return x.row(v[0], v[1], v[2]);
            case "set": return x.set(v[0], v[1], v[2]);
            case "copy": return x.copy(v[0], v[1], v[2], v[3], v[4]);
            case "drop": return x.drop(v[0]);
            case "feed": return x.feed(v[0]);
            case "web": return x.web();
            case "fault": return x.fault();
            case "follow": return x.follow(v[0]);
            case "back": return x.back();
            case "forward": return x.forward();
            case "select": return x.select(v[0]);
            case "open": return x.open(v[0]);
            case "close": return x.close();
            case "again": return x.again();
            case "undo": return x.undo();
            case "tab": return x.tab(v[0], v[1]);
            case "trail": return x.trail(v[0], v[1]);
            case "page": return x.page(v[0], v[1]);
            case "walk": return x.walk(v[0], v[1]);
            case "far": return x.far(v[0], v[1]);
            case "round": return x.round(v[0]);
            case "to": return x.to(v[0], v[1]);
            case "ways": return x.ways(v[0], v[1]);
            case "share": return x.share(v[0], v[1]);
            case "fits": return x.fits(v[0], v[1], v[2], v[3], v[4]);
            case "chance": return x.chance(v[0], v[1], v[2]);
            case "drawn": return x.drawn(v[0], v[1], v[2]);
            case "image": return x.image(v[0]);
            case "restore": return x.restore(v[0]);
            case "kind": return x.kind(v[0]);
            case "as": return x.as(v[0], v[1]);
            case "ask": return x.ask(v[0], v[1]);
            case "trace": return x.trace(v[0]);
            case "count": return x.count(v[0]);
            default: return x.status();
        }
    }

    static int ofModel(Model x, int call, int[] v) {
        switch (NAMES[call]) {
            case "row": return x.row(v[0], v[1], v[2]);
            case "set": return x.set(v[0], v[1], v[2]);
            case "copy": return x.copy(v[0], v[1], v[2], v[3], v[4]);
            case "drop": return x.drop(v[0]);
            case "feed": return x.feed(v[0]);
            case "web": return x.web();
            case "fault": return x.fault();
            case "follow": return x.follow(v[0]);
            case "back": return x.back();
            case "forward": return x.forward();
            case "select": return x.select(v[0]);
            case "open": return x.open(v[0]);
            case "close": return x.close();
            case "again": return x.again();
            case "undo": return x.undo();
            case "tab": return x.tab(v[0], v[1]);
            case "trail": return x.trail(v[0], v[1]);
            case "page": return x.page(v[0], v[1]);
            case "walk": return x.walk(v[0], v[1]);
            case "far": return x.far(v[0], v[1]);
            case "round": return x.round(v[0]);
            case "to": return x.to(v[0], v[1]);
            case "ways": return x.ways(v[0], v[1]);
            case "share": return x.share(v[0], v[1]);
            case "fits": return x.fits(v[0], v[1], v[2], v[3], v[4]);
            case "chance": return x.chance(v[0], v[1], v[2]);
            case "drawn": return x.drawn(v[0], v[1], v[2]);
            case "image": return x.image(v[0]);
            case "restore": return x.restore(v[0]);
            case "kind": return x.kind(v[0]);
            case "as": return x.as(v[0], v[1]);
            case "ask": return x.ask(v[0], v[1]);
            case "trace": return x.trace(v[0]);
            case "count": return x.count(v[0]);
            default: return x.status();
        }
    }
}
