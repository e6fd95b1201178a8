import java.util.Random;

/** Any calls, with any numbers, in any state: none throws, a refusal gives NONE or false, the same calls answer the same. */
public final class WildTest {
    private static final Due due = new Due();
    private static final String[] WORDS = {"port", "calls", "turns", "frost", "from", "echo", "ship", "of", "at", "takes",
        "costs", "sail", "cart", "if", "do", "open", "shut", "rest", "or", "and", "not", "ships", "carts", "next", "minute",
        "turned", "a", "b", "l", "s", "ls", "abcdefghi", "1", "3", "12345", "300", "301", ";", "<", ">", "=", "(", ")", "#"};
    private static final String RIVER = "port a calls ls;port b calls s;port c calls sl;turns 4;frost 2 from 20;echo 2;"
            + "ship d of a at 12 takes 3 costs 4;ship e of b at 30 takes 2 costs 9 sail;cart f at 5 takes 3 costs 2;"
            + "cart g at 13 takes 4 costs 7;";
    private static final String RULES = "if ships > 0 and (carts < 2 or not open) do open;if turned > 9 do shut;";

    public static void main(String[] args) {
        for (int seed = 0; seed < 300; seed++) {
            Random one = new Random(seed);
            Random other = new Random(seed);
            HornBridge x = new HornBridge();
            HornBridge y = new HornBridge();
            for (int call = 0; call < 400; call++) {
                long a = any(x, one);
                due.is("the same calls", a, any(y, other));
                due.is("the same STATUS", x.status(), y.status());
                due.is("bottom above 0", x.bottom() > 0, true);
            }
        }
        due.end("WildTest");
    }

    private static int number(Random random) {
        switch (random.nextInt(8)) {
            case 0: return random.nextInt();
            case 1: return new int[] {Integer.MIN_VALUE, Integer.MAX_VALUE, -1, 59, 60, 61, 9999, 10000}[random.nextInt(8)];
            case 2: return random.nextInt(70) - 5;
            default: return random.nextInt(4);
        }
    }

    private static String text(Random random) {
        int sort = random.nextInt(4);
        if (sort == 0) {
            return RIVER;
        }
        if (sort == 1) {
            return RULES;
        }
        StringBuilder text = new StringBuilder();
        if (sort == 2) {
            text.append(random.nextBoolean() ? RIVER : RULES);
            text.setCharAt(random.nextInt(text.length()), (char) random.nextInt(256));
            return text.toString();
        }
        for (int i = random.nextInt(30); i >= 0; i--) {
            text.append(WORDS[random.nextInt(WORDS.length)]).append(random.nextInt(4) == 0 ? "" : " ");
        }
        return text.toString();
    }

    private static long any(HornBridge x, Random r) {
        if (r.nextInt(12) == 0) {
            String text = text(r);
            Due.feed(x, text);
            return refused(x, r.nextBoolean() ? x.river(text.length()) : x.rules(Math.min(text.length(), 300)));
        }
        int what = r.nextInt(44);
        return what < 22 ? firstCalls(x, r, what) : lastCalls(x, r, what);
    }

    private static long refused(HornBridge x, long got) {
        if (x.status() != 0) {
            due.is("refused", got, -1);
        }
        return got;
    }

    private static long refused(HornBridge x, boolean got) {
        due.is("refused, or not", got, x.status() == 0);
        return got ? 1 : 0;
    }

    private static long firstCalls(HornBridge x, Random r, int what) {
        switch (what) {
            case 0: return refused(x, x.tray(number(r), number(r), number(r)));
            case 1: return refused(x, x.write(number(r), number(r), r.nextLong()));
            case 2: return refused(x, x.read(number(r), number(r)));
            case 3: return refused(x, x.pour(number(r), number(r), number(r), number(r), number(r)));
            case 4: return x.feed(number(r), number(r), number(r), number(r), number(r));
            case 5: return refused(x, x.river(number(r)));
            case 6: return refused(x, x.rules(number(r)));
            case 7: return x.fault(number(r));
            case 8: return refused(x, x.told(number(r)));
            case 9: return refused(x, x.ship(number(r), number(r)));
            case 10: return refused(x, x.cart(number(r), number(r)));
            case 11: return refused(x, x.nextShip(number(r)));
            case 12: return refused(x, x.nextCart(number(r)));
            case 13: return refused(x, x.sound(number(r)));
            case 14: return refused(x, x.heard(number(r)));
            case 15: return refused(x, x.together(number(r), number(r), number(r)));
            case 16: return refused(x, x.lasts(number(r)));
            case 17: return refused(x, x.far(number(r), number(r)));
            case 18: return refused(x, x.readings(r.nextBoolean() ? r.nextLong() : number(r)));
            case 19: return refused(x, x.reading(number(r), number(r)));
            case 20: return refused(x, x.doubt(number(r), number(r)));
            default: return refused(x, x.alike());
        }
    }

    private static long lastCalls(HornBridge x, Random r, int what) {
        switch (what) {
            case 22: return refused(x, x.code(number(r), number(r), number(r)));
            case 23: return refused(x, x.codeAt(number(r)));
            case 24: return refused(x, x.parts(r.nextLong()));
            case 25: return refused(x, x.clearBeats(number(r), number(r)));
            case 26: return refused(x, x.clearEcho());
            case 27: return refused(x, x.silent());
            case 28: return refused(x, x.least());
            case 29: return refused(x, x.plan());
            case 30: return refused(x, x.planAt(number(r), number(r)));
            case 31: return refused(x, x.worth(number(r)));
            case 32: return refused(x, x.quicker(number(r)));
            case 33: return refused(x, x.away());
            case 34: return refused(x, x.later(number(r), number(r)));
            case 35: return refused(x, x.slack(number(r)));
            case 36: return refused(x, x.without(number(r)));
            case 37: return refused(x, x.dearest());
            case 38: return refused(x, x.opened() + x.busiest() < 0 ? -1 : 0);
            case 39: return refused(x, x.keep(number(r)));
            case 40: return refused(x, x.kept(number(r)));
            case 41: return refused(x, x.odds(number(r), number(r)));
            case 42: return refused(x, x.waits(number(r), number(r)));
            default: return refused(x, r.nextBoolean() ? x.mark() : x.back());
        }
    }
}
