import java.util.ArrayList;
import java.util.List;
import java.util.Map;
import java.util.Set;
import java.util.regex.Matcher;
import java.util.regex.Pattern;

/** Calls of one object, written as "follow(0)=1 back()=0 back()=STATE", and the sentence of the document that they test. */
final class Run {
    private static final int MOST_CALLS = 512;
    private static final Calls CALLS = new Calls(TabTrails.class);
    private static final Set<String> WITH_STATUS = Set.of("row", "set", "copy", "drop", "fits", "as");
    private static final Pattern CALL = Pattern.compile("(\\w+)\\(([^)]*)\\)(=(\\S+))?");
    private static final Map<String, Integer> NAMED = Map.ofEntries(
        Map.entry("NONE", -1000000), Map.entry("BAD", -1000001), Map.entry("STATE", -1000002), Map.entry("FULL", -1000003),
        Map.entry("NULL", -1000011), Map.entry("PLACE", -1000012), Map.entry("KIND", -1000013), Map.entry("SIZE", -1000014),
        Map.entry("STORE", -1000015), Map.entry("MOST", Integer.MAX_VALUE), Map.entry("LEAST", Integer.MIN_VALUE));

    private final Checks checks;
    private final String sentence;
    private final TabTrails x = new TabTrails();
    private final List<String> made = new ArrayList<>();

    Run(Checks checks, String sentence) {
        this.checks = checks;
        this.sentence = sentence;
    }

    /** Makes the calls; an answer that is told is compared. */
    Run does(String script) {
        for (String call : script.trim().split("\\s+")) {
            one(call);
        }
        return this;
    }

    /** Calls that change nothing but status(); each is made of a twin of this object. */
    Run still(String script) {
        for (String call : script.trim().split("\\s+")) {
            Run plain = twin();
            Run called = twin();
            int answer = called.one(call);
            due("status() behind " + call, called.x.status(), statusBehind(call, answer, plain.x.status()));
            due("fault() behind " + call, called.x.fault(), plain.x.fault());
            for (int view = 0; view < Views.HOW_MANY; view++) {
                Run behind = twin();
                behind.one(unanswered(call));
                same(call + " left", Views.of(twin().x, view), Views.of(behind.x, view));
            }
        }
        return this;
    }

    /** Acts, one behind the other, that are undone then, the latest first: each time all is as it was ahead of the act. */
    Run undoes(String acts) {
        List<Run> ahead = new ArrayList<>();
        for (String act : acts.trim().split("\\s+")) {
            ahead.add(twin());
            one(act);
        }
        for (int i = ahead.size() - 1; i >= 0; i--) {
            Run before = ahead.get(i);
            due("undo() of act " + i, one("undo()"), before.x.count(7));
            for (int view = 0; view < Views.HOW_MANY; view++) {
                same("undo() of act " + i + " left", Views.of(before.twin().x, view), Views.of(twin().x, view));
            }
        }
        return this;
    }

    Run reads(String tape, int answer) {
        for (int i = 0; i < tape.length(); i++) {
            one("feed(" + (int) tape.charAt(i) + ")");
        }
        due("web() of " + tape, one("web()"), answer);
        return this;
    }

    /** A twin of this object reads a tape that has a fault: all stays, but the tape is empty. */
    Run faults(String tape, int place, int number) {
        for (int view = 0; view < Views.HOW_MANY; view++) {
            Run behind = twin().reads(tape, -1000100 - place);
            due("fault() of " + tape, behind.x.fault(), number);
            due("status() behind " + tape, behind.x.status(), x.status());
            same("reading " + tape + " left", Views.of(twin().x, view), Views.of(behind.x, view));
        }
        return this;
    }

    Run trail(int tab, int... pages) {
        for (int k = 0; k < pages.length; k++) {
            one("trail(" + tab + "," + k + ")=" + pages[k]);
        }
        return does("trail(" + tab + "," + pages.length + ")=NONE tab(" + tab + ",2)=" + pages.length);
    }

    Run trace(int... numbers) {
        for (int i = 0; i < numbers.length; i++) {
            one("trace(" + i + ")=" + numbers[i]);
        }
        return does("trace(" + numbers.length + ")=NONE");
    }

    /** A row of ints that holds these. */
    Run tells(int row, int... items) {
        one("row(" + row + ",2," + items.length + ")=" + items.length);
        for (int i = 0; i < items.length; i++) {
            one("set(" + row + "," + i + "," + items[i] + ")=" + items[i]);
        }
        return this;
    }

    Run times(int n, String script) {
        for (int i = 0; i < n; i++) {
            does(script);
        }
        return this;
    }

    int calls() {
        return made.size();
    }

    Run twin() {
        Run other = new Run(checks, sentence);
        for (String call : made) {
            other.one(unanswered(call));
        }
        return other;
    }

    private static String unanswered(String call) {
        return call.replaceAll("=.*", "");
    }

    private int one(String call) {
        Matcher parts = CALL.matcher(call);
        if (!parts.matches()) {
            throw new IllegalStateException("no call: " + call);
        }
        String[] told = parts.group(2).isEmpty() ? new String[0] : parts.group(2).split(",");
        int[] values = new int[told.length];
        for (int i = 0; i < told.length; i++) {
            values[i] = number(told[i]);
        }
        if (values.length != CALLS.takes(parts.group(1))) {
            throw new IllegalStateException("not as many numbers as it takes: " + call);
        }
        made.add(call);
        if (made.size() > MOST_CALLS) {
            throw new IllegalStateException("more calls than are promised: " + sentence);
        }
        int answer = CALLS.make(x, parts.group(1), values);
        if (parts.group(4) != null) {
            due("call " + made.size() + ", " + call, answer, number(parts.group(4)));
        }
        return answer;
    }

    private static int number(String told) {
        return NAMED.containsKey(told) ? NAMED.get(told) : Integer.parseInt(told);
    }

    private static int statusBehind(String call, int answer, int before) {
        boolean refused = answer <= -1000001 && answer >= -1000003;
        if (refused || !WITH_STATUS.contains(call.substring(0, call.indexOf('(')))) {
            return before;
        }
        return answer <= -1000011 && answer >= -1000015 ? -1000010 - answer : 0;
    }

    private void same(String what, String want, String got) {
        checks.yes("\"" + sentence + "\": " + what + " " + got + " in place of " + want, want.equals(got));
    }

    private void due(String call, long got, long want) {
        checks.due("\"" + sentence + "\": " + call, got, want);
    }
}
