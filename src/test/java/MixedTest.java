import java.lang.reflect.Method;
import java.lang.reflect.Modifier;
import java.nio.charset.StandardCharsets;
import java.util.Arrays;
import java.util.HashMap;
import java.util.List;
import java.util.Map;
import java.util.Random;

/** Long runs of all calls on one object, each answer and each STATUS against what Told answers to the same run. */
public final class MixedTest {
    private static final Due due = new Due();
    private static final Map<String, Method> FACE = new HashMap<>();
    private static final int RUNS = 400;
    private static final int MOST_CALLS = 512;

    private final Drawn drawn;
    private final HornBridge bridge = new HornBridge();
    private final Told told = new Told();
    private final String run;
    private int calls = 0;

    private MixedTest(int seed) {
        drawn = new Drawn(new Random(seed));
        run = "run " + seed + ", call ";
    }

    public static void main(String[] args) throws ReflectiveOperationException {
        for (Method method : HornBridge.class.getDeclaredMethods()) {
            if (Modifier.isPublic(method.getModifiers())) {
                FACE.put(method.getName(), method);
            }
        }
        int first = args.length > 0 ? Integer.parseInt(args[0]) : 0;
        int many = args.length > 1 ? Integer.parseInt(args[1]) : RUNS;
        for (int seed = first; seed < first + many; seed++) {
            new MixedTest(seed).spend();
        }
        due.end("MixedTest");
    }

    private void spend() throws ReflectiveOperationException {
        ask("status");
        if (drawn.oneIn(8)) {
            askOfTrays();
        } else {
            askOfRiver();
        }
        while (calls < MOST_CALLS) {
            switch (drawn.upTo(8)) {
                case 0: askOfTrays(); break;
                case 1: askOfRiver(); break;
                case 2: ask(drawn.oneIn(2) ? "mark" : "back"); break;
                case 3: askOfTexts(); break;
                case 4: case 5: askOfCalls(); break;
                case 6: askOfWaits(); break;
                default: askOfRules(); break;
            }
        }
    }

    private long ask(String name, long... a) throws ReflectiveOperationException {
        if (calls >= MOST_CALLS) {
            return -1;
        }
        calls++;
        Method method = FACE.get(name);
        Object[] numbers = new Object[a.length];
        for (int k = 0; k < a.length; k++) {
            if (method.getParameterTypes()[k] == long.class) {
                numbers[k] = a[k];
            } else {
                numbers[k] = (int) a[k];
            }
        }
        Object got = method.invoke(bridge, numbers);
        long answer = got instanceof Boolean ? ((Boolean) got ? 1 : 0) : ((Number) got).longValue();
        String call = run + calls + ": " + name + Arrays.toString(a);
        due.is(call, answer, told.call(name, a));
        due.is(call + " STATUS", bridge.status(), told.statusNow());
        return answer;
    }

    private void askFraction() throws ReflectiveOperationException {
        ask("top");
        ask("bottom");
    }

    private void askOfTrays() throws ReflectiveOperationException {
        int sort = drawn.upTo(3);
        for (int k = 0; k < 16; k++) {
            int tray = drawn.of(0, 0, 0, 1, 1, 2, 3, drawn.of(-1, 4));
            int place = drawn.of(0, 1, 2, 4, 5, 8, 9, drawn.of(10, 59, 60, -1, Integer.MAX_VALUE, Integer.MIN_VALUE));
            switch (drawn.upTo(6)) {
                case 0: ask("tray", tray, drawn.of(sort, sort, sort, 4, -1), drawn.of(0, 1, 10, 10, 60, 61, -1)); break;
                case 1: ask("tray", drawn.upTo(1), drawn.oneIn(4) ? drawn.upTo(3) : sort, drawn.of(10, 60)); break;
                case 2: case 3: ask("write", tray, place, number()); break;
                case 4: ask("read", tray, place); break;
                default: ask("pour", tray, place, drawn.of(0, 0, 1, 1, 4), drawn.of(0, 1, 2, 10, -1),
                        drawn.of(0, 1, 4, 6, 9, drawn.of(10, -1, Integer.MAX_VALUE))); break;
            }
        }
        for (int place = 0; place < 11; place++) {
            ask("read", drawn.of(0, 1), place);
        }
    }

    private long number() {
        int bits = drawn.of(7, 8, 15, 16, 31, 32, 63);
        return (1L << bits) * drawn.of(1, -1) + drawn.of(-1, 0, 1);
    }

    private int feed(String text) throws ReflectiveOperationException {
        byte[] bytes = text.getBytes(StandardCharsets.ISO_8859_1);
        for (int k = 0; k < bytes.length; k += 20) {
            long[] five = new long[5];
            for (int b = 0; b < 20; b++) {
                five[b / 4] = five[b / 4] << 8 | (k + b < bytes.length ? bytes[k + b] & 255 : 0);
            }
            for (int i = 0; i < 5; i++) {
                five[i] = (int) five[i];
            }
            ask("feed", five);
        }
        return bytes.length;
    }

    private void askText(String call, String text) throws ReflectiveOperationException {
        int n = feed(text);
        ask(call, n + drawn.of(0, 0, 0, 0, 0, 0, 0, 0, -1, 1, -9999));
        for (int what = -1; what <= 2; what++) {
            ask("fault", what);
        }
        ask("told", drawn.upTo(9) - 1);
    }

    private void askOfRiver() throws ReflectiveOperationException {
        askText("river", drawn.oneIn(6) ? drawn.spoiled(drawn.river()) : drawn.river());
        for (int what = 0; what < 8; what++) {
            ask("told", what);
        }
        for (int k = -1; k <= 6; k++) {
            ask("nextShip", k);
            ask("nextCart", k);
            ask("ship", k, drawn.upTo(6) - 1);
            ask("cart", k, drawn.upTo(4) - 1);
        }
    }

    private void askOfTexts() throws ReflectiveOperationException {
        for (int k = 0; k < 3; k++) {
            if (drawn.oneIn(2)) {
                askText("river", drawn.spoiled(drawn.river()));
            } else {
                askText("rules", drawn.spoiled(drawn.rules()));
            }
        }
    }

    private int port() {
        return drawn.oneIn(12) ? drawn.of(-1, told.portsNow()) : drawn.upTo(Math.max(0, told.portsNow() - 1));
    }

    private void askOfCalls() throws ReflectiveOperationException {
        for (int k = 0; k < 4; k++) {
            long sound = ask("together", port(), port(), drawn.of(0, 0, 1, 2, 3, 5, 12, 13, -1));
            sound = drawn.oneIn(3) ? ask("heard", port()) : drawn.oneIn(9) ? drawn.of(0, 1, 2, 7) : sound;
            ask("readings", sound);
            for (int what = -1; what <= 3; what++) {
                ask("reading", drawn.of(-1, 0, 0, 1, 2, 3), what);
            }
            ask("doubt", sound, port());
            askFraction();
            ask("parts", drawn.oneIn(4) ? Long.MAX_VALUE : sound);
            ask("sound", port());
            ask("lasts", port());
            ask("far", port(), port());
            ask("clearBeats", port(), port());
        }
        for (String name : List.of("alike", "clearEcho", "silent")) {
            ask(name);
        }
        ask("code", drawn.upTo(5), drawn.upTo(5), drawn.upTo(11) - 1);
        for (int k = -1; k <= 4; k++) {
            ask("codeAt", k);
        }
    }

    private void askOfWaits() throws ReflectiveOperationException {
        ask("least");
        long acts = ask("plan");
        for (int k = -1; k <= acts; k++) {
            for (int what = 0; what <= 2; what++) {
                ask("planAt", k, what);
            }
        }
        ask("planAt", 0, drawn.of(-1, 3));
        for (String name : List.of("dearest", "opened", "busiest", "away")) {
            ask(name);
        }
        for (int ship = -1; ship <= told.shipsNow(); ship++) {
            ask("worth", ship);
            ask("later", ship, drawn.of(-1, 0, 1, 2, 5, 20, 60, 61));
        }
        ask("slack", drawn.upTo(told.shipsNow()));
        for (int cart = -1; cart <= told.cartsNow(); cart++) {
            ask("without", cart);
        }
        ask("quicker", drawn.of(0, 1, 2, 5, 10, 20, 21));
    }

    private void askOfRules() throws ReflectiveOperationException {
        askText("rules", drawn.oneIn(6) ? drawn.spoiled(drawn.rules()) : drawn.rules());
        for (int k = 0; k < 3; k++) {
            ask("keep", drawn.oneIn(3) ? -1 : drawn.oneIn(6) ? drawn.of(-2, 0, 9999, 10000) : drawn.upTo(9999));
            for (int what = -1; what <= 5; what++) {
                ask("kept", what);
            }
        }
        int seed = drawn.oneIn(3) ? drawn.of(-1, 0, 9980, 9981, 9999) : drawn.upTo(9999);
        int many = drawn.of(0, 1, 2, 7, 19, 20, 21);
        ask("odds", seed, many);
        askFraction();
        ask("waits", seed, many);
        ask("kept", drawn.upTo(4));
    }
}
