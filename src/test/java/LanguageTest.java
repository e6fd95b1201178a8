import java.io.IOException;
import java.lang.reflect.Modifier;
import java.nio.file.Files;
import java.nio.file.Path;
import java.util.Arrays;
import java.util.List;
import java.util.TreeSet;
import java.util.regex.Matcher;
import java.util.regex.Pattern;

/** What of ../shared/LANGUAGE.md can be seen in the text of the program and in its face. */
public final class LanguageTest {
    private static final Due due = new Due();
    private static final List<String> FACE = List.of("status", "top", "bottom", "tray", "write", "read", "pour", "feed",
            "river", "rules", "fault", "told", "ship", "cart", "nextShip", "nextCart", "sound", "heard", "together", "lasts",
            "far", "readings", "reading", "doubt", "alike", "code", "codeAt", "parts", "clearBeats", "clearEcho", "silent",
            "least", "plan", "planAt", "worth", "quicker", "away", "later", "slack", "without", "dearest", "opened",
            "busiest", "keep", "kept", "odds", "waits", "mark", "back");

    public static void main(String[] args) throws IOException {
        String source = Files.readString(Path.of("src/main/java/HornBridge.java"));
        String code = source.replaceAll("(?s)/\\*.*?\\*/", "").replaceAll("//[^\n]*", "");
        for (String word : List.of("throw", "try", "catch", "synchronized", "assert", "import", "package", "instanceof",
                "protected", "volatile", "finally", "float", "double", "hashCode", "toString")) {
            due.is("no " + word, Pattern.compile("\\b" + word + "\\b").matcher(code).find(), false);
        }
        for (String sign : List.of("->", "::", "Exact", "\"+", "\" +", "java.", "@")) {
            due.is("no " + sign, code.contains(sign), false);
        }
        face();
        classes();
        shortMethods(source);
        due.end("LanguageTest");
    }

    private static void face() {
        TreeSet<String> publics = new TreeSet<>();
        for (var method : HornBridge.class.getDeclaredMethods()) {
            boolean isPublic = Modifier.isPublic(method.getModifiers());
            due.is(method + " is public or private", isPublic || Modifier.isPrivate(method.getModifiers()), true);
            due.is(method + " bears its own name", isPublic || !FACE.contains(method.getName()), true);
            if (isPublic) {
                publics.add(method.getName());
            }
        }
        due.is("the face " + publics, publics.equals(new TreeSet<>(FACE)), true);
        for (var field : HornBridge.class.getDeclaredFields()) {
            boolean isNone = field.getName().equals("NONE");
            due.is(field + " is private", isNone || Modifier.isPrivate(field.getModifiers()), true);
            due.is(field + " static ones are final", !Modifier.isStatic(field.getModifiers())
                    || Modifier.isFinal(field.getModifiers()), true);
        }
        due.is("final", Modifier.isFinal(HornBridge.class.getModifiers()), true);
        due.is("one constructor", HornBridge.class.getConstructors().length, 1);
    }

    private static void classes() {
        Class<?>[] inside = HornBridge.class.getDeclaredClasses();
        due.is("at most twelve classes", inside.length <= 11, true);
        for (Class<?> one : inside) {
            due.is(one + " is static", Modifier.isStatic(one.getModifiers()), true);
            long fields = Arrays.stream(one.getDeclaredFields()).filter(f -> !Modifier.isStatic(f.getModifiers())).count();
            due.is(one + " has at most twenty fields", fields <= 20, true);
            for (var method : one.getDeclaredMethods()) {
                due.is(method + " takes at most seven", method.getParameterCount() <= 7, true);
                due.is(method + " bears its own name", FACE.contains(method.getName()), false);
            }
        }
    }

    private static void shortMethods(String source) {
        Matcher method = Pattern.compile("(?m)^( {4}| {8})(public|private)[^;=]*\\) \\{\n(?s:.*?)^\\1\\}$").matcher(source);
        int methods = 0;
        while (method.find()) {
            methods++;
            due.is("short: " + method.group().lines().findFirst().orElse(""), method.group().lines().count() <= 60, true);
        }
        due.is("methods are found", methods > 100, true);
    }
}
