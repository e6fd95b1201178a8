import java.util.LinkedHashMap;
import java.util.Map;

/** All that an object's answers show of its state, part by part; the looking uses the object up. */
final class Seen {
    static final String FRACTION = "the FRACTION";
    static final String FAULT = "the FAULT";
    static final String RIVER = "the RIVER";
    static final String TRAYS = "the TRAYS";
    static final String READINGS = "the READINGS";
    static final String CODE = "the CODE";
    static final String PLAN = "the PLAN";
    static final String KEPT = "the day KEPT";
    static final String RULES = "the RULES";
    static final String MARKS = "the MARKS";
    static final String TAPE = "the tape";

    private final HornBridge x;
    private final Map<String, String> parts = new LinkedHashMap<>();

    private Seen(HornBridge x) {
        this.x = x;
    }

    static Map<String, String> of(HornBridge x) {
        Seen seen = new Seen(x);
        seen.look();
        return seen.parts;
    }

    private void look() {
        parts.put(FRACTION, x.top() + " by " + x.bottom());
        parts.put(FAULT, x.fault(0) + " at " + x.fault(1));
        parts.put(RIVER, river());
        parts.put(READINGS, rows(3, (k, what) -> x.reading(k, what)));
        parts.put(CODE, rows(1, (k, what) -> x.codeAt(k)));
        parts.put(PLAN, rows(3, (k, what) -> x.planAt(k, what)));
        parts.put(KEPT, rows(1, (k, what) -> x.kept(k)));
        parts.put(TRAYS, trays());
        // From here on the looking changes what is looked at, so that the order matters.
        parts.put(RULES, day(-1) + day(4711));
        parts.put(MARKS, marks());
        parts.put(TAPE, tape());
    }

    private interface Asked {
        long answer(int k, int what);
    }

    /** All answers from k 0 on, to the first k that there isn't. */
    private String rows(int whats, Asked asked) {
        StringBuilder all = new StringBuilder();
        for (int k = 0; k < 60; k++) {
            for (int what = 0; what < whats; what++) {
                long answer = asked.answer(k, what);
                if (what == 0 && x.status() != 0) {
                    return all.toString();
                }
                all.append(answer).append(' ');
            }
            all.append("; ");
        }
        return all.toString();
    }

    private String river() {
        return told() + "SHIPS " + rows(5, (k, what) -> x.ship(k, what)) + "CARTS " + rows(3, (k, what) -> x.cart(k, what))
                + "calls " + rows(1, (k, what) -> x.heard(k));
    }

    private String told() {
        StringBuilder all = new StringBuilder();
        for (int what = 0; what < 8; what++) {
            all.append(x.told(what)).append(' ');
        }
        return all.toString();
    }

    /** The numbers, how many there are, and to how many bits they are cut. */
    private String trays() {
        StringBuilder all = new StringBuilder();
        for (int tray = 0; tray < 4; tray++) {
            int number = tray;
            all.append(rows(1, (k, what) -> x.read(number, k))).append(x.status());
            x.write(tray, 0, 0x1234_5678_9abc_def0L);
            all.append(" cut ").append(x.read(tray, 0)).append(", ");
        }
        return all.toString();
    }

    private String day(int seed) {
        return x.keep(seed) + " of " + rows(1, (k, what) -> x.kept(k)) + ", ";
    }

    private String marks() {
        StringBuilder all = new StringBuilder();
        for (int left = x.back(); left != HornBridge.NONE; left = x.back()) {
            all.append(left).append(": ").append(told()).append(day(-1));
        }
        return all.toString();
    }

    private String tape() {
        int fed = x.feed(0x20202020, 0x20202020, 0x20202020, 0x20202020, 0x20202020);
        int ships = x.river(fed == HornBridge.NONE ? 900 : fed);
        return fed + ": " + ships + " FAULT " + x.fault(0) + " at " + x.fault(1) + ", " + told();
    }
}
