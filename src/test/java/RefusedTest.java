import java.util.Map;
import java.util.Set;

/**
 * "With another STATUS than 0 a call gives NONE, or false, and changes nothing else": each refused call is made on
 * one of two objects that have come the same way; then both must show the same. And what only asks changes nothing
 * but what it is to tell.
 */
public final class RefusedTest {
    private static final Due due = new Due();
    private static final String RIVER = "port a calls s;port b calls ss;turns 3;frost 2 from 50;echo 0;"
            + "ship c of a at 9 takes 2 costs 5;ship d of b at 30 takes 1 costs 2 sail;"
            + "cart e at 1 takes 4 costs 3;cart f at 12 takes 2 costs 1;";
    private static final String RULES = "if ships>0 do open;if next<4 do open;if open and carts>0 do shut;";

    private interface Call {
        long on(HornBridge x);
    }

    private interface Way {
        HornBridge come();
    }

    public static void main(String[] args) {
        ofTrays();
        ofTexts();
        ofTold();
        ofCalls();
        ofReadingsAndCodes();
        ofWaits();
        ofPlans();
        ofRules();
        ofMarks();
        asksChangeNothing();
        due.end("RefusedTest");
    }

    // ---- the ways to come

    private static HornBridge bare() {
        return new HornBridge();
    }

    /** Something of all there is: TRAYS of three sorts, a MISSING one, RIVER, RULES, two MARKS, all that is told, a tape. */
    private static HornBridge rich() {
        HornBridge x = new HornBridge();
        x.tray(0, 3, 3);
        x.write(0, 1, Long.MIN_VALUE);
        x.write(0, 2, 77);
        x.tray(1, 1, 2);
        x.write(1, 1, -5);
        x.tray(2, 3, 0);
        Due.river(x, "turns 7;cart z at 3 takes 1 costs 1;");
        Due.rules(x, "if minute=9 do open;");
        x.mark();
        Due.river(x, RIVER);
        x.mark();
        Due.rules(x, RULES);
        x.doubt(5, 0);
        x.readings(5);
        x.code(3, 2, 1);
        x.plan();
        x.keep(17);
        Due.feed(x, "echo 8;turns 11;    ");
        return x;
    }

    private static HornBridge threeMarks() {
        HornBridge x = rich();
        x.mark();
        return x;
    }

    /** Told is all of rich(), but here not all can pass, and there are no RULES. */
    private static HornBridge hopeless() {
        HornBridge x = rich();
        due.is("the tape of rich()", x.river(20), 0);
        Due.river(x, "port a calls l;port b calls ss;echo 1;ship c of a at 4 takes 1 costs 1 sail;cart e at 0 takes 1 costs 1;");
        Due.feed(x, "echo 8;turns 11;    ");
        return x;
    }

    private static HornBridge fullTape() {
        HornBridge x = rich();
        for (int i = 1; i < 45; i++) {
            x.feed(0x20202020, 0x20202020, 0x20202020, 0x20202020, 0x20202020);
        }
        return x;
    }

    // ---- what is compared

    private static void refused(Way way, int status, String call, Call made) {
        HornBridge x = way.come();
        due.none(x, call, made.on(x), status);
        sameBut(Set.of(), call, Seen.of(x), Seen.of(way.come()));
    }

    private static void denied(Way way, int status, String call, Call made) {
        HornBridge x = way.come();
        due.is(call, made.on(x), 0);
        due.is(call + " STATUS", x.status(), status);
        sameBut(Set.of(), call, Seen.of(x), Seen.of(way.come()));
    }

    /** Of a text with a FAULT the tape and what fault() tells may change, and nothing else. */
    private static void faulty(Way way, String call, Call made) {
        HornBridge x = way.come();
        due.none(x, call, made.on(x), 9);
        sameBut(Set.of(Seen.FAULT, Seen.TAPE), call, Seen.of(x), Seen.of(way.come()));
    }

    private static void asks(Way way, String changed, String call, Call made) {
        HornBridge x = way.come();
        made.on(x);
        due.is(call + " STATUS", x.status(), 0);
        sameBut(Set.of(changed), call, Seen.of(x), Seen.of(way.come()));
    }

    private static void sameBut(Set<String> others, String call, Map<String, String> seen, Map<String, String> twin) {
        for (String part : twin.keySet()) {
            boolean same = seen.get(part).equals(twin.get(part));
            due.is(call + ": " + part + " as it was", same || others.contains(part), true);
        }
    }

    private static long count(boolean answer) {
        return answer ? 1 : 0;
    }

    // ---- refused calls

    private static void ofTrays() {
        for (int wrong : new int[] {-1, 4}) {
            denied(RefusedTest::rich, 1, "tray", x -> count(x.tray(wrong, 0, 1)));
            denied(RefusedTest::rich, 1, "sort", x -> count(x.tray(0, wrong, 1)));
            denied(RefusedTest::rich, 1, "write", x -> count(x.write(wrong, 0, 1)));
            refused(RefusedTest::rich, 1, "read", x -> x.read(wrong, 0));
            denied(RefusedTest::rich, 1, "pour from", x -> count(x.pour(wrong, 0, 0, 0, 1)));
            denied(RefusedTest::rich, 1, "pour to", x -> count(x.pour(0, 0, wrong, 0, 1)));
        }
        for (int wrong : new int[] {-1, 61}) {
            denied(RefusedTest::rich, 1, "many", x -> count(x.tray(0, 0, wrong)));
        }
        denied(RefusedTest::rich, 2, "write", x -> count(x.write(3, 0, 1)));
        refused(RefusedTest::rich, 2, "read", x -> x.read(3, 0));
        for (int wrong : new int[] {-1, 3}) {
            denied(RefusedTest::rich, 3, "write", x -> count(x.write(0, wrong, 1)));
            refused(RefusedTest::rich, 3, "read", x -> x.read(0, wrong));
        }
        denied(RefusedTest::rich, 1, "pour place", x -> count(x.pour(0, -1, 0, 0, 1)));
        denied(RefusedTest::rich, 1, "pour at", x -> count(x.pour(0, 0, 0, -1, 1)));
        denied(RefusedTest::rich, 1, "pour many", x -> count(x.pour(0, 0, 0, 1, -1)));
        denied(RefusedTest::rich, 2, "pour from", x -> count(x.pour(3, 0, 0, 0, 1)));
        denied(RefusedTest::rich, 2, "pour to", x -> count(x.pour(0, 0, 3, 0, 1)));
        denied(RefusedTest::rich, 8, "pour", x -> count(x.pour(0, 1, 1, 0, 1)));
        denied(RefusedTest::rich, 3, "pour from", x -> count(x.pour(0, 1, 0, 0, 3)));
        denied(RefusedTest::rich, 3, "pour to", x -> count(x.pour(0, 1, 0, 2, 2)));
        denied(RefusedTest::rich, 3, "pour into nothing", x -> count(x.pour(0, 1, 2, 0, 1)));
    }

    private static void ofTexts() {
        refused(RefusedTest::rich, 1, "river(-1)", x -> x.river(-1));
        refused(RefusedTest::rich, 1, "river(21)", x -> x.river(21));
        refused(RefusedTest::rich, 1, "rules(-1)", x -> x.rules(-1));
        refused(RefusedTest::rich, 1, "rules(21)", x -> x.rules(21));
        refused(RefusedTest::bare, 1, "river(1)", x -> x.river(1));
        refused(RefusedTest::bare, 1, "rules(1)", x -> x.rules(1));
        refused(RefusedTest::fullTape, 1, "river(901)", x -> x.river(901));
        refused(RefusedTest::fullTape, 1, "rules(301)", x -> x.rules(301));
        for (int bytes : new int[] {4, 9, 15}) {
            faulty(RefusedTest::rich, "river(" + bytes + ")", x -> x.river(bytes));
            faulty(RefusedTest::rich, "rules(" + bytes + ")", x -> x.rules(bytes));
        }
        // At the last TOKEN, when nearly all was read.
        faulty(RefusedTest::rich, "a RIVER", x -> Due.river(x, "port c calls ll;turns 9;echo 3;cart a at 1 takes 1 costs 1"));
        faulty(RefusedTest::rich, "RULES", x -> Due.rules(x, "if open do shut;if shut do open"));
        HornBridge x = fullTape();
        int status = x.status();
        due.is("feed to a full tape", x.feed(1, 2, 3, 4, 5), -1);
        due.is("feed has no STATUS", x.status(), status);
        sameBut(Set.of(), "feed", Seen.of(x), Seen.of(fullTape()));
    }

    private static void ofTold() {
        for (int wrong : new int[] {-1, 8}) {
            refused(RefusedTest::rich, 1, "told", x -> x.told(wrong));
        }
        for (int wrong : new int[] {-1, 2}) {
            refused(RefusedTest::rich, 1, "ship", x -> x.ship(wrong, 0));
            refused(RefusedTest::rich, 1, "cart", x -> x.cart(wrong, 0));
            refused(RefusedTest::rich, 6, "nextShip", x -> x.nextShip(wrong));
            refused(RefusedTest::rich, 6, "nextCart", x -> x.nextCart(wrong));
        }
        for (int wrong : new int[] {-1, 5}) {
            refused(RefusedTest::rich, 1, "ship", x -> x.ship(0, wrong));
        }
        for (int wrong : new int[] {-1, 3}) {
            refused(RefusedTest::rich, 1, "cart", x -> x.cart(0, wrong));
        }
    }

    private static void ofCalls() {
        for (int wrong : new int[] {-1, 2}) {
            refused(RefusedTest::rich, 1, "sound", x -> x.sound(wrong));
            refused(RefusedTest::rich, 1, "heard", x -> x.heard(wrong));
            refused(RefusedTest::rich, 1, "together", x -> x.together(wrong, 0, 0));
            refused(RefusedTest::rich, 1, "together", x -> x.together(0, wrong, 0));
            refused(RefusedTest::rich, 1, "lasts", x -> x.lasts(wrong));
            refused(RefusedTest::rich, 1, "far", x -> x.far(wrong, 0));
            refused(RefusedTest::rich, 1, "far", x -> x.far(0, wrong));
            refused(RefusedTest::rich, 1, "clearBeats", x -> x.clearBeats(wrong, 0));
            refused(RefusedTest::rich, 1, "clearBeats", x -> x.clearBeats(0, wrong));
        }
        for (int wrong : new int[] {-1, 13}) {
            refused(RefusedTest::rich, 1, "together", x -> x.together(0, 1, wrong));
        }
        for (int wrong : new int[] {0, -1}) {
            refused(RefusedTest::rich, 1, "parts", x -> x.parts(wrong));
        }
        refused(RefusedTest::hopeless, 6, "clearBeats", x -> x.clearBeats(0, 0));
    }

    private static void ofReadingsAndCodes() {
        for (int wrong : new int[] {-1, 0}) {
            refused(RefusedTest::rich, 1, "readings", x -> x.readings(wrong));
            denied(RefusedTest::rich, 1, "doubt", x -> count(x.doubt(wrong, 0)));
        }
        for (int wrong : new int[] {-1, 2}) {
            denied(RefusedTest::rich, 1, "doubt", x -> count(x.doubt(5, wrong)));
        }
        denied(RefusedTest::rich, 6, "doubt", x -> count(x.doubt(2, 0)));
        for (int wrong : new int[] {-1, 3}) {
            refused(RefusedTest::rich, 1, "reading", x -> x.reading(0, wrong));
            refused(RefusedTest::rich, 6, "codeAt", x -> x.codeAt(wrong));
        }
        for (int wrong : new int[] {-1, 5}) {
            refused(RefusedTest::rich, 6, "reading", x -> x.reading(wrong, 0));
        }
        refused(RefusedTest::rich, 6, "reading alone", x -> x.reading(0, 1));
        refused(RefusedTest::rich, 6, "reading alone", x -> x.reading(0, 2));
        refused(RefusedTest::bare, 6, "reading", x -> x.reading(0, 0));
        refused(RefusedTest::bare, 6, "codeAt", x -> x.codeAt(0));
        for (int wrong : new int[] {0, 5}) {
            refused(RefusedTest::rich, 1, "code", x -> x.code(wrong, 2, 0));
            refused(RefusedTest::rich, 1, "code", x -> x.code(2, wrong, 0));
        }
        for (int wrong : new int[] {-1, 10}) {
            refused(RefusedTest::rich, 1, "code", x -> x.code(2, 2, wrong));
        }
        refused(RefusedTest::rich, 6, "code", x -> x.code(3, 1, 0));
    }

    private static void ofWaits() {
        for (int wrong : new int[] {-1, 2}) {
            refused(RefusedTest::rich, 1, "worth", x -> x.worth(wrong));
            refused(RefusedTest::rich, 1, "later", x -> x.later(wrong, 0));
            refused(RefusedTest::rich, 1, "slack", x -> x.slack(wrong));
            refused(RefusedTest::rich, 1, "without", x -> x.without(wrong));
        }
        for (int wrong : new int[] {0, 21}) {
            refused(RefusedTest::rich, 1, "quicker", x -> x.quicker(wrong));
        }
        for (int wrong : new int[] {-1, 61}) {
            refused(RefusedTest::rich, 1, "later", x -> x.later(0, wrong));
        }
        refused(RefusedTest::hopeless, 6, "least", x -> x.least());
        refused(RefusedTest::hopeless, 6, "worth", x -> x.worth(0));
        refused(RefusedTest::hopeless, 6, "quicker", x -> x.quicker(5));
        refused(RefusedTest::hopeless, 6, "later", x -> x.later(0, 0));
        refused(RefusedTest::hopeless, 6, "slack", x -> x.slack(0));
        refused(RefusedTest::hopeless, 6, "without", x -> x.without(0));
        refused(RefusedTest::hopeless, 6, "dearest", x -> x.dearest());
        refused(RefusedTest::hopeless, 6, "opened", x -> x.opened());
        refused(RefusedTest::hopeless, 6, "busiest", x -> x.busiest());
        refused(RefusedTest::bare, 6, "dearest", x -> x.dearest());
        refused(RefusedTest::bare, 6, "busiest", x -> x.busiest());
    }

    private static void ofPlans() {
        refused(RefusedTest::hopeless, 6, "plan", x -> x.plan());
        for (int wrong : new int[] {-1, 3}) {
            refused(RefusedTest::rich, 1, "planAt", x -> x.planAt(0, wrong));
        }
        int acts = rich().plan();
        for (int wrong : new int[] {-1, acts}) {
            refused(RefusedTest::rich, 6, "planAt", x -> x.planAt(wrong, 0));
        }
        // The first CART passes, then it turns.
        due.is("a turn", rich().planAt(1, 0), 2);
        refused(RefusedTest::rich, 6, "planAt of a turn", x -> x.planAt(1, 2));
        refused(RefusedTest::bare, 6, "planAt", x -> x.planAt(0, 0));
    }

    private static void ofRules() {
        for (int wrong : new int[] {-2, 10000}) {
            refused(RefusedTest::rich, 1, "keep", x -> x.keep(wrong));
        }
        for (int wrong : new int[] {-1, 5}) {
            refused(RefusedTest::rich, 1, "kept", x -> x.kept(wrong));
        }
        for (int wrong : new int[] {-1, 10000}) {
            denied(RefusedTest::rich, 1, "odds", x -> count(x.odds(wrong, 1)));
            refused(RefusedTest::rich, 1, "waits", x -> x.waits(wrong, 1));
        }
        for (int wrong : new int[] {0, 21}) {
            denied(RefusedTest::rich, 1, "odds", x -> count(x.odds(0, wrong)));
            refused(RefusedTest::rich, 1, "waits", x -> x.waits(0, wrong));
        }
        denied(RefusedTest::rich, 1, "odds, the last above 9,999", x -> count(x.odds(9999, 2)));
        refused(RefusedTest::rich, 1, "waits, the last above 9,999", x -> x.waits(9999, 2));
        refused(RefusedTest::hopeless, 6, "keep", x -> x.keep(-1));
        denied(RefusedTest::hopeless, 6, "odds", x -> count(x.odds(0, 1)));
        refused(RefusedTest::hopeless, 6, "waits", x -> x.waits(0, 1));
        refused(RefusedTest::bare, 6, "kept", x -> x.kept(0));
    }

    private static void ofMarks() {
        refused(RefusedTest::threeMarks, 4, "mark", x -> x.mark());
        refused(RefusedTest::bare, 6, "back", x -> x.back());
    }

    // ---- what only asks

    private static void asksChangeNothing() {
        asks(RefusedTest::rich, "", "told", x -> x.told(0));
        asks(RefusedTest::rich, "", "read", x -> x.read(0, 1));
        asks(RefusedTest::rich, "", "nextShip", x -> x.nextShip(1));
        asks(RefusedTest::rich, "", "nextCart", x -> x.nextCart(1));
        asks(RefusedTest::rich, "", "together", x -> x.together(0, 1, 12));
        asks(RefusedTest::rich, "", "clearBeats", x -> x.clearBeats(0, 1));
        asks(RefusedTest::rich, "", "clearEcho", x -> x.clearEcho());
        asks(RefusedTest::rich, "", "silent", x -> x.silent());
        asks(RefusedTest::rich, "", "parts", x -> x.parts(5));
        asks(RefusedTest::rich, "", "least", x -> x.least());
        asks(RefusedTest::rich, "", "worth", x -> x.worth(0));
        asks(RefusedTest::rich, "", "quicker", x -> x.quicker(1));
        asks(RefusedTest::rich, "", "away", x -> x.away());
        asks(RefusedTest::hopeless, "", "away", x -> x.away());
        asks(RefusedTest::rich, "", "later", x -> x.later(0, 60));
        asks(RefusedTest::rich, "", "slack", x -> x.slack(0));
        asks(RefusedTest::rich, "", "without", x -> x.without(0));
        asks(RefusedTest::rich, "", "opened", x -> x.opened());
        asks(RefusedTest::rich, "", "dearest", x -> x.dearest());
        asks(RefusedTest::rich, "", "busiest", x -> x.busiest());
        asks(RefusedTest::rich, "", "waits", x -> x.waits(0, 20));
        asks(RefusedTest::rich, Seen.FRACTION, "odds", x -> count(x.odds(0, 20)));
        asks(RefusedTest::rich, Seen.FRACTION, "doubt", x -> count(x.doubt(1, 0)));
        asks(RefusedTest::rich, Seen.READINGS, "readings", x -> x.readings(1));
        asks(RefusedTest::rich, Seen.CODE, "code", x -> x.code(4, 4, 9));
        asks(RefusedTest::rich, Seen.PLAN, "plan", x -> x.plan());
        asks(RefusedTest::rich, Seen.KEPT, "keep", x -> x.keep(9999));
        asks(RefusedTest::rich, Seen.MARKS, "mark", x -> x.mark());
    }
}
