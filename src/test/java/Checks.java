/** What the tests share: answers compared with those due, and tapes fed. */
final class Checks {
    private int asked = 0;
    private int wrong = 0;

    void due(String call, long got, long want) {
        asked++;
        if (got != want) {
            wrong++;
            System.out.println(call + " answered " + got + ", due is " + want);
        }
    }

    void yes(String what, boolean holds) {
        due(what, holds ? 1 : 0, 1);
    }

    /** Ends the program with 1 if an answer was wrong. */
    void end() {
        System.out.println(asked + " answers, " + wrong + " wrong");
        if (wrong != 0 || asked == 0) {
            System.exit(1);
        }
    }

    static void feed(TabTrails x, String tape) {
        for (int i = 0; i < tape.length(); i++) {
            x.feed(tape.charAt(i));
        }
    }

    static int read(TabTrails x, String tape) {
        feed(x, tape);
        return x.web();
    }

    static TabTrails told(String tape) {
        TabTrails x = new TabTrails();
        if (read(x, tape) < 1) {
            throw new IllegalStateException(tape);
        }
        return x;
    }
}
