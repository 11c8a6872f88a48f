/** What can be seen of an object. Some views change it, so each is taken of an object of its own. */
final class Views {
    static final int HOW_MANY = 6;

    private Views() { }

    static String of(TabTrails x, int view) {
        switch (view) {
            case 0: return standing(x) + tabs(x) + pages(x) + trace(x);
            case 1: return undone(x);
            case 2: return rows(x);
            case 3: return images(x);
            case 4: return x.web() + " " + x.fault() + " " + standing(x) + tabs(x) + pages(x);
            default: return closed(x);
        }
    }

    /** The view that leaves an object as it is. */
    static String untouched(TabTrails x) {
        return x.fault() + " " + of(x, 0);
    }

    private static String standing(TabTrails x) {
        StringBuilder text = new StringBuilder("counts");
        for (int what = 0; what < 9; what++) {
            text.append(' ').append(x.count(what));
        }
        return text.toString();
    }

    private static String tabs(TabTrails x) {
        StringBuilder text = new StringBuilder();
        for (int tab = 0; tab < x.count(2); tab++) {
            text.append(" tab ").append(x.kind(tab));
            text.append(' ').append(x.tab(tab, 1)).append(' ').append(x.tab(tab, 3)).append(':');
            for (int k = 0; k < 7; k++) {
                text.append(' ').append(x.trail(tab, k));
            }
        }
        return text.toString();
    }

    private static String pages(TabTrails x) {
        StringBuilder text = new StringBuilder();
        for (int page = 0; page < x.count(1); page++) {
            text.append(" page");
            for (int what = 0; what < 5; what++) {
                text.append(' ').append(x.page(page, what));
            }
        }
        return text.toString();
    }

    private static String trace(TabTrails x) {
        StringBuilder text = new StringBuilder(" trace");
        for (int i = 0; i < 17; i++) {
            text.append(' ').append(x.trace(i));
        }
        return text.toString();
    }

    private static String undone(TabTrails x) {
        StringBuilder text = new StringBuilder("undone");
        for (int i = 0; i < 25; i++) {
            text.append(' ').append(x.undo());
            for (int what = 2; what < 7; what++) {
                text.append(' ').append(x.count(what));
            }
        }
        return text.toString() + tabs(x);
    }

    /** An item is seen by where link 0 of the page that is shown might lead; lane and size by the calls that tell them. */
    private static String rows(TabTrails x) {
        StringBuilder text = new StringBuilder("rows");
        int shown = x.count(4);
        for (int row = 0; row < 8; row++) {
            int size = 0;
            int bits = x.fits(shown, row, 0, 1, 2);
            while (bits >= 0 && size < 40) {
                text.append(' ').append(bits);
                size++;
                bits = x.fits(shown, row, size, 1, 2);
            }
            text.append(" lane ").append(x.set(row, 0, 1000000)).append(" size ").append(x.drop(row));
        }
        return text.toString();
    }

    private static String images(TabTrails x) {
        StringBuilder text = new StringBuilder("images");
        for (int k = 0; k < 2; k++) {
            text.append(' ').append(x.restore(k)).append(standing(x)).append(tabs(x)).append(pages(x));
        }
        return text.toString();
    }

    private static String closed(TabTrails x) {
        StringBuilder text = new StringBuilder("again");
        for (int i = 0; i < 4; i++) {
            text.append(' ').append(x.again());
        }
        return text.toString() + tabs(x);
    }
}
