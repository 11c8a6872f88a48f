import java.util.Random;

/** Numbers from all over the range of int: no call throws, and a refused one changes nothing but status(). */
public final class EdgesTest {
    private static final int RUNS = 300, CALLS = 500;
    private static final int[] EDGES = {
        Integer.MIN_VALUE, Integer.MIN_VALUE + 1, -1000000, -256, -41, -13, -9, -6, -5, -3, -2, -1, 0, 1, 2, 3, 4, 5, 6, 7, 8,
        9, 12, 13, 16, 17, 39, 40, 41, 59, 60, 61, 79, 80, 81, 108, 112, 119, 255, 256, 998, 999, 1000, 65535, 999999, 1000000,
        Integer.MAX_VALUE - 1, Integer.MAX_VALUE};
    private static final String[] TAPES = {
        "w2;l0;l1;p0;", "w5;l1,2;l2,0,3;l3;l4,4;l4;p0;s1;n2;g0;k1;", "w8;l1;l2;l3;l4;l5;l6;l7;l0,1,2;k7;n0;", "w3;l1;l2;l0;n0;n1;"};

    private static final Calls CALLS_OF_PROGRAM = new Calls(TabTrails.class);
    private static final java.util.List<String> CHANGES = java.util.List.of(
        "row", "set", "copy", "drop", "feed", "web", "follow", "back", "forward", "select", "open", "close", "again", "undo",
        "restore", "ask");

    private EdgesTest() { }

    private static int edge(Random random) {
        int draw = random.nextInt(10);
        return draw < 4 ? random.nextInt(8) : draw < 9 ? EDGES[random.nextInt(EDGES.length)] : random.nextInt();
    }

    private static boolean isRefusal(int answer) {
        return answer <= -1000001 && answer >= -1000015;
    }

    private static void run(Checks checks, int number) {
        Random random = new Random(number * 104729L + 7);
        TabTrails x = new TabTrails();
        if (number % 5 > 0) {
            Checks.read(x, TAPES[number % TAPES.length]);
        }
        for (int i = 0; i < CALLS; i++) {
            String name = Calls.NAMES[random.nextInt(Calls.NAMES.length)];
            int[] values = {edge(random), edge(random), edge(random), edge(random), edge(random)};
            String told = name + java.util.Arrays.toString(values) + " in run " + number;
            String before = Views.untouched(x);
            int status = x.status();
            try {
                int answer = CALLS_OF_PROGRAM.make(x, name, values);
                // A set item may hold any number, so its answer may look like a refusal.
                boolean refused = isRefusal(answer) && !name.equals("set");
                if (refused || !CHANGES.contains(name)) {
                    checks.yes(told + " changed nothing", before.equals(Views.untouched(x)));
                }
                if (refused && answer >= TabTrails.FULL) {
                    checks.due("status() behind " + told, x.status(), status);
                } else if (refused) {
                    checks.due("status() of " + told, x.status(), -1000010 - answer);
                }
            } catch (RuntimeException thrown) {
                checks.yes(told + " threw " + thrown.getCause(), false);
            }
        }
    }

    public static void main(String[] args) {
        Checks checks = new Checks();
        for (int number = 0; number < RUNS; number++) {
            run(checks, number);
        }
        checks.end();
    }
}
