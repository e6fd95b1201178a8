import java.io.IOException;
import java.nio.file.Files;
import java.nio.file.Path;
import java.util.ArrayList;
import java.util.List;
import java.util.regex.Matcher;
import java.util.regex.Pattern;

/** What README.md shows: its lines of Java are lines of this file, and their answers are those that it tells. */
public final class ReadmeTest {
    private static final Due due = new Due();
    private static final Pattern TOLD = Pattern.compile("bridge\\.(\\w+)\\(.*\\); +// (-?\\w+)\\b.*");

    public static void main(String[] args) throws IOException {
        List<String> readme = javaOf(Files.readString(Path.of("README.md")));
        List<String> own = Files.readString(Path.of("src/test/java/ReadmeTest.java")).lines().map(String::strip).toList();
        List<String> answers = new ArrayList<>();
        for (String line : readme) {
            Matcher told = TOLD.matcher(line);
            if (told.matches()) {
                answers.add(told.group(2));
            }
            String plain = line.replaceAll(" +//.*", "");
            boolean isHere = own.stream().anyMatch(one -> one.endsWith(told.matches() ? plain.replace(";", "));") : plain));
            due.is("README's line is here: " + line, isHere, true);
        }
        List<String> got = answers();
        due.is("README tells as many answers: " + answers + " " + got, answers.size(), got.size());
        due.is("README tells these answers: " + answers + " " + got, answers.equals(got), true);
        due.is("README has lines of Java", readme.size() > 20, true);
        due.end("ReadmeTest");
    }

    private static List<String> javaOf(String readme) {
        List<String> lines = new ArrayList<>();
        for (Matcher block = Pattern.compile("(?s)```java\n(.*?)```").matcher(readme); block.find();) {
            block.group(1).lines().map(String::strip).filter(line -> !line.isEmpty()).forEach(lines::add);
        }
        return lines;
    }

    private static List<String> answers() {
        List<String> all = new ArrayList<>();
        HornBridge bridge = new HornBridge();
        int n = feed(bridge, "port north calls ls; port south calls s; turns 3; echo 2;"
                + "ship anna of north at 10 takes 4 costs 5; cart mill at 9 takes 2 costs 1;");
        all.add("" + (bridge.river(n)));
        all.add("" + (bridge.heard(0)));
        all.add("" + (bridge.least()));
        all.add("" + (bridge.plan()));
        all.add("" + (bridge.planAt(0, 0)));
        all.add("" + (bridge.planAt(0, 1)));
        all.add("" + (bridge.mark()));
        n = feed(bridge, "if shut and ships > 0 do open; if open and carts > 0 do shut;");
        all.add("" + (bridge.rules(n)));
        all.add("" + (bridge.keep(HornBridge.NONE)));
        all.add("" + (bridge.kept(2)));
        all.add("" + (bridge.odds(0, 20)));
        all.add("" + (bridge.top()));
        all.add("" + (bridge.bottom()));
        all.add("" + (bridge.back()));
        all.add("" + (bridge.keep(0)));
        all.add("" + (bridge.status()));
        n = feed(bridge, "turns 21;");
        all.add("" + (bridge.river(n)));
        all.add("" + (bridge.status()));
        all.add("" + (bridge.fault(0)));
        all.add("" + (bridge.fault(1)));
        return all;
    }

    static int feed(HornBridge bridge, String text) {
        for (int i = 0; i < text.length(); i += 20) {
            bridge.feed(four(text, i), four(text, i + 4), four(text, i + 8), four(text, i + 12), four(text, i + 16));
        }
        return text.length();
    }

    static int four(String text, int from) {
        int all = 0;
        for (int i = from; i < from + 4; i++) {
            all = all << 8 | (i < text.length() ? text.charAt(i) & 255 : 0);
        }
        return all;
    }
}
