import java.io.IOException;
import java.lang.reflect.Constructor;
import java.lang.reflect.Field;
import java.lang.reflect.Method;
import java.lang.reflect.Modifier;
import java.nio.file.Files;
import java.nio.file.Path;
import java.util.ArrayList;
import java.util.Arrays;
import java.util.List;
import java.util.TreeSet;
import java.util.regex.Matcher;
import java.util.regex.Pattern;

/** The public face of the class, and what ../shared/LANGUAGE.md rules out, as far as a text search sees it. */
public final class LanguageTest {
    private static final Path SOURCE = Path.of("src/main/java/TabTrails.java");
    private static final String FACE = "row/3 set/3 copy/5 drop/1 feed/1 web/0 fault/0 follow/1 back/0 forward/0 select/1 "
        + "open/1 close/0 again/0 undo/0 tab/2 trail/2 page/2 walk/2 far/2 round/1 to/2 ways/2 share/2 fits/5 chance/3 "
        + "drawn/3 image/1 restore/1 kind/1 as/2 ask/2 trace/1 count/1 status/0";
    private static final String[] WORDS = {
        "throw", "throws", "try", "catch", "finally", "synchronized", "assert", "import", "package", "volatile", "var",
        "double", "float", "Object", "Exception", "System\\.(?!arraycopy)\\w+", "Thread", "Random", "->", "::", "hashCode",
        "toString", "equals", "protected", "\\w+Exact"};

    private static final Checks checks = new Checks();

    private LanguageTest() { }

    private static void face() {
        checks.yes("the class is final", Modifier.isFinal(TabTrails.class.getModifiers()));
        TreeSet<String> names = new TreeSet<>();
        for (Method method : TabTrails.class.getDeclaredMethods()) {
            if (Modifier.isPublic(method.getModifiers())) {
                names.add(method.getName() + "/" + method.getParameterCount());
                checks.yes(method + " answers an int", method.getReturnType() == int.class && !Modifier.isStatic(method.getModifiers()));
            } else if (!method.isSynthetic()) {
                checks.yes(method + " is private", Modifier.isPrivate(method.getModifiers()));
                checks.yes(method + " has a name of its own", !(" " + FACE).contains(" " + method.getName() + "/"));
            }
        }
        checks.yes("the public methods: " + names, names.equals(new TreeSet<>(Arrays.asList(FACE.split(" ")))));
        Constructor<?>[] constructors = TabTrails.class.getDeclaredConstructors();
        checks.yes("one public constructor", constructors.length == 1
            && Modifier.isPublic(constructors[0].getModifiers()) && constructors[0].getParameterCount() == 0);
        for (Field field : TabTrails.class.getDeclaredFields()) {
            boolean told = "NONE BAD STATE FULL".contains(field.getName());
            checks.yes(field + " is as visible as told", Modifier.isPublic(field.getModifiers()) == told
                && (told || Modifier.isPrivate(field.getModifiers())));
        }
    }

    private static void insideOf(Class<?> type) {
        int fields = 0;
        for (Field field : type.getDeclaredFields()) {
            boolean fixed = Modifier.isStatic(field.getModifiers());
            fields += fixed ? 0 : 1;
            checks.yes(field + ": static fields are final", !fixed || Modifier.isFinal(field.getModifiers()));
        }
        checks.yes(type + " has " + fields + " fields", fields <= 20);
        for (Method method : type.getDeclaredMethods()) {
            checks.yes(method + " has few parameters", method.getParameterCount() <= 7);
            checks.yes(method + " bears no public name", type == TabTrails.class
                || !(" " + FACE).contains(" " + method.getName() + "/"));
        }
    }

    private static void classes() {
        Class<?>[] inside = TabTrails.class.getDeclaredClasses();
        checks.yes("classes: " + inside.length, inside.length < 12);
        insideOf(TabTrails.class);
        for (Class<?> type : inside) {
            checks.yes(type + " is static", Modifier.isStatic(type.getModifiers()));
            insideOf(type);
        }
    }

    private static void text() throws IOException {
        List<String> code = new ArrayList<>();
        int begun = 0;
        for (String line : Files.readAllLines(SOURCE)) {
            code.add(line.replaceAll("/\\*\\*.*\\*/|//.*", ""));
            boolean method = line.matches(" {4,8}\\S.*\\) \\{") && !line.contains(" class ");
            begun = method ? code.size() : begun;
            if (line.matches(" {4,8}\\}")) {
                checks.yes("a method that ends at line " + code.size() + " is short", code.size() - begun <= 60);
            }
        }
        for (String word : WORDS) {
            String bounded = word.matches("\\W+") ? Pattern.quote(word) : "\\b" + word + "\\b";
            for (int i = 0; i < code.size(); i++) {
                Matcher matcher = Pattern.compile(bounded).matcher(code.get(i));
                checks.yes("line " + (i + 1) + " holds " + word, !matcher.find());
            }
        }
        String all = Files.readString(SOURCE);
        checks.yes("signs are plain", all.chars().allMatch(c -> c == '\n' || c >= 32 && c < 127));
    }

    public static void main(String[] args) throws IOException {
        face();
        classes();
        text();
        checks.end();
    }
}
