import com.sun.management.ThreadMXBean;
import java.lang.management.ManagementFactory;

/**
 * All calls of a run live in one room of some 600,000 objects and 7.3 million fields and elements: the dearest runs of
 * 512 calls stay far below it. An object is never below 16 bytes, a field or an element of the class never above 8.
 */
public final class RoomTest {
    private static final Due due = new Due();
    private static final int CALLS = 512;
    private static final long FEW_BYTES = 1_000_000;
    private static final ThreadMXBean BEAN = (ThreadMXBean) ManagementFactory.getThreadMXBean();
    private static final int[] TEXT = new int[225];
    private static final int[] RULES = new int[75];

    /** One call of a run. */
    private interface Call {
        long of(HornBridge x, int k);
    }

    public static void main(String[] args) {
        lay(TEXT, fullRiver());
        lay(RULES, "if (ships>0 or not carts>1)and turned>3 do open;if open and next>9 do shut;if carts=6 do rest;");
        room("a new object", (x, k) -> 0);
        room("feed", (x, k) -> feed(x, TEXT, k % 45));
        room("RIVERS of 900 bytes", (x, k) -> k % 46 < 45 ? feed(x, TEXT, k % 46) : x.river(900));
        room("RIVERS without a byte", (x, k) -> x.river(0));
        room("RULES of 300 bytes", (x, k) -> k % 16 < 15 ? feed(x, RULES, k % 16) : x.rules(300));
        room("RULES without a byte", (x, k) -> x.rules(0));
        room("MARKS", (x, k) -> k % 6 < 3 ? x.mark() : x.back());
        room("TRAYS", (x, k) -> x.tray(k % 4, k / 4 % 4, 60) ? x.read(k % 4, 59) : 1);
        room("pour", (x, k) -> x.pour(0, 0, 0, 1, 59) ? 1 : 0);
        room("readings", (x, k) -> x.readings(k + 1) + (x.doubt(k + 1, 0) ? 1 : 0) + x.clearBeats(0, 5));
        room("codes", (x, k) -> x.code(4, 1 + k % 4, k % 10));
        room("the least waits", (x, k) -> x.least() + x.away() + x.quicker(1 + k % 20) + x.later(0, k % 61));
        room("plans", (x, k) -> x.plan() + x.dearest() + x.opened() + x.busiest());
        room("slack", (x, k) -> x.slack(k % 6) + x.worth(k % 6) + x.without(k % 6) + x.nextShip(k % 6) + x.nextCart(k % 6));
        room("days", (x, k) -> x.keep(k) + x.waits(k, 20) + (x.odds(k, 20) ? 1 : 0));
        due.end("RoomTest");
    }

    private static void room(String name, Call call) {
        long before = BEAN.getThreadAllocatedBytes(Thread.currentThread().getId());
        HornBridge x = new HornBridge();
        for (int k = 0; k < 45; k++) {
            feed(x, TEXT, k);
        }
        due.is("six SHIPS", x.river(900), 6);
        for (int k = 0; k < 15; k++) {
            feed(x, RULES, k);
        }
        due.is("three RULES", x.rules(300), 3);
        long sum = 0;
        for (int k = 0; k < CALLS; k++) {
            sum += call.of(x, k);
        }
        long bytes = BEAN.getThreadAllocatedBytes(Thread.currentThread().getId()) - before;
        due.is(name + " takes few bytes: " + bytes + ", answers " + sum, bytes < FEW_BYTES, true);
    }

    private static String fullRiver() {
        StringBuilder text = new StringBuilder("turns 1;frost 1 from 50;echo 1;");
        String[] calls = {"l", "s", "ll", "ls", "sl", "ss"};
        for (int k = 0; k < 6; k++) {
            char letter = (char) ('a' + k);
            text.append("port p").append(letter).append(" calls ").append(calls[k]).append(';');
            text.append("ship s").append(letter).append(" of p").append(letter).append(" at ").append(9 * k)
                    .append(" takes 3 costs ").append(k).append(';');
            text.append("cart c").append(letter).append(" at ").append(8 * k).append(" takes 4 costs ").append(9 - k).append(';');
        }
        return text.toString();
    }

    /** A text as ints, blanks behind it. */
    private static void lay(int[] ints, String text) {
        for (int i = 0; i < ints.length; i++) {
            for (int b = 0; b < 4; b++) {
                int at = 4 * i + b;
                ints[i] = ints[i] << 8 | (at < text.length() ? text.charAt(at) : ' ');
            }
        }
    }

    private static int feed(HornBridge x, int[] ints, int k) {
        return x.feed(ints[5 * k], ints[5 * k + 1], ints[5 * k + 2], ints[5 * k + 3], ints[5 * k + 4]);
    }
}
