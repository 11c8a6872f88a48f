import java.util.Random;

/** Random runs of calls, whose answers TabTrails and the model must share. */
public final class ModelTest {
    private static final int RUNS = 1500, CALLS = 512;
    /** Acts come more often than other calls, so that trails grow. */
    private static final String[] ACTS = {"follow", "follow", "follow", "back", "forward", "select", "open", "close", "again", "undo"};

    private static final Calls CALLS_OF_PROGRAM = new Calls(TabTrails.class);
    private static final Calls CALLS_OF_MODEL = new Calls(Model.class);

    private final Checks checks;
    private final Random random;
    private final int run;
    private final TabTrails program = new TabTrails();
    private final Model model = new Model();
    private int calls = 0;

    private ModelTest(Checks checks, int run) {
        this.checks = checks;
        this.run = run;
        this.random = new Random(run * 7919L + 13);
    }

    private int near(int least, int most) {
        return random.nextInt(12) == 0 ? least - 1 + random.nextInt(most - least + 3) : least + random.nextInt(most - least + 1);
    }

    private void call(String name, int... given) {
        int[] values = java.util.Arrays.copyOf(given, 5);
        int want = CALLS_OF_MODEL.make(model, name, values);
        int got = CALLS_OF_PROGRAM.make(program, name, values);
        calls++;
        checks.due("run " + run + ", call " + calls + ": " + name + java.util.Arrays.toString(given), got, want);
    }

    private String page(int pages) {
        return Integer.toString(random.nextInt(pages));
    }

    private String tape() {
        int pages = 2 + random.nextInt(7);
        StringBuilder text = new StringBuilder("w" + pages + ";");
        for (int p = 0; p < pages; p++) {
            text.append('l').append(page(pages));
            for (int j = random.nextInt(3); j > 0; j--) {
                text.append(',').append(page(pages));
            }
            text.append(';');
        }
        for (int t = 1 + random.nextInt(5); t > 0; t--) {
            text.append("psngk".charAt(random.nextInt(5))).append(page(pages)).append(';');
        }
        return random.nextInt(4) == 0 ? spoiled(text) : text.toString();
    }

    private String spoiled(StringBuilder text) {
        String signs = "wlpsngkxz0123456789,;;; A" + (char) 200;
        int changes = 1 + random.nextInt(2);
        for (int i = 0; i < changes && text.length() > 0; i++) {
            int at = random.nextInt(text.length());
            char sign = signs.charAt(random.nextInt(signs.length()));
            switch (random.nextInt(5)) {
                case 0: text.deleteCharAt(at); break;
                case 1: text.insert(at, sign); break;
                case 2: text.setLength(at); break;
                case 3: text.append("g1;"); break;
                default: text.setCharAt(at, sign);
            }
        }
        return text.toString();
    }

    private void readTape() {
        String text = tape();
        for (int i = 0; i < text.length(); i++) {
            call("feed", text.charAt(i));
        }
        call("web");
        call("fault");
    }

    /** A row that tells what will be shown, as often as not of a kiosk, so that some guesses fit. */
    private void tellRow() {
        int row = random.nextInt(3);
        int n = 1 + random.nextInt(12);
        call("row", row, random.nextInt(3), 12);
        int pages = Math.max(1, model.count(1));
        int at = Math.max(0, model.page(model.count(4), 1));
        for (int i = 0; i < n; i++) {
            boolean home = random.nextInt(3) == 0 && model.count(2) > 0;
            call("set", row, i, home ? model.tab(model.count(3), 1) : random.nextInt(20) == 0 ? random.nextInt(pages) : at);
            at = Math.max(0, model.page(home ? model.tab(model.count(3), 1) : at, 1));
        }
        for (int what = 0; what < 4; what++) {
            call("fits", random.nextInt(pages), row, near(0, 0), near(1, n), what);
        }
    }

    private void act() {
        String name = ACTS[random.nextInt(ACTS.length)];
        call(name, near(0, name.equals("follow") ? 2 : 7));
    }

    private void foretell() {
        switch (random.nextInt(9)) {
            case 0: call("walk", near(0, 60), near(0, 2)); break;
            case 1: call("far", near(0, 7), near(0, 7)); break;
            case 2: call("round", near(0, 7)); break;
            case 3: call("to", near(0, 7), near(-1, 4)); break;
            case 4: call("ways", near(0, 7), random.nextInt(4) == 0 ? near(0, 12) : near(0, 6)); break;
            case 5: call("share", near(0, 7), near(0, 999)); break;
            case 6: call("chance", near(0, 7), random.nextInt(4) == 0 ? near(0, 8) : near(0, 4), near(0, 1)); break;
            case 7: call("drawn", near(0, 60), near(1, 999999), near(0, 1)); break;
            default: call("fits", near(0, 7), near(0, 7), near(0, 5), near(1, 12), near(0, 3));
        }
    }

    private void look() {
        switch (random.nextInt(12)) {
            case 0: call("tab", near(0, 4), near(0, 3)); break;
            case 1: call("trail", near(0, 4), near(0, 5)); break;
            case 2: call("page", near(0, 7), near(0, 4)); break;
            case 3: call("image", near(0, 1)); break;
            case 4: call("restore", near(0, 1)); break;
            case 5: call("kind", near(0, 4)); break;
            case 6: call("as", near(0, 4), near(0, 5)); break;
            case 7: call("ask", near(0, 4), near(0, 1)); break;
            case 8: call("trace", near(0, 6)); break;
            case 9: call("count", near(0, 8)); break;
            case 10: call("status"); break;
            default: call("fault");
        }
    }

    private void handleRows() {
        switch (random.nextInt(4)) {
            case 0: call("row", near(0, 7), near(0, 2), near(0, 40)); break;
            case 1: call("set", near(0, 7), near(0, 12), random.nextInt()); break;
            case 2: call("copy", near(0, 7), near(0, 6), near(0, 7), near(0, 6), near(0, 8)); break;
            default: call("drop", near(0, 7));
        }
        call("status");
    }

    private void lookAtAll() {
        for (int tab = 0; tab < 5; tab++) {
            call("kind", tab);
            for (int k = 0; k < 7; k++) {
                call("trail", tab, k);
            }
            call("tab", tab, 3);
            call("tab", tab, 1);
            call("ask", tab, 0);
            call("ask", tab, 1);
        }
        for (int what = 0; what < 9; what++) {
            call("count", what);
        }
        for (int page = 0; page < 8; page++) {
            call("page", page, 4);
            call("to", page, -1);
            call("to", page, 0);
            call("to", page, 3);
        }
    }

    private void goOn() {
        readTape();
        while (calls < CALLS - 110) {
            int draw = random.nextInt(100);
            if (draw < 45) {
                act();
            } else if (draw < 65) {
                foretell();
            } else if (draw < 85) {
                look();
            } else if (draw < 93) {
                handleRows();
            } else if (draw < 99) {
                tellRow();
            } else {
                readTape();
            }
        }
        lookAtAll();
    }

    public static void main(String[] args) {
        Checks checks = new Checks();
        for (int run = 0; run < RUNS; run++) {
            new ModelTest(checks, run).goOn();
        }
        checks.end();
    }
}
