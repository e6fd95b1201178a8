/** Promises 49 and 50. */
public final class MarksTest {
    private static final Due due = new Due();

    public static void main(String[] args) {
        HornBridge x = new HornBridge();
        due.none(x, "back without a MARK", x.back(), 6);
        due.fine(x, "mark", x.mark(), 1);
        Due.river(x, "turns 7;cart c at 1 takes 2 costs 3;");
        Due.rules(x, "if open do shut;");
        due.fine(x, "mark", x.mark(), 2);
        Due.river(x, "turns 9;");
        due.fine(x, "mark", x.mark(), 3);
        due.none(x, "a fourth MARK", x.mark(), 4);
        due.fine(x, "nothing has changed", x.told(4), 9);
        Due.river(x, "turns 11;");
        due.fine(x, "back", x.back(), 2);
        due.fine(x, "told(4)", x.told(4), 9);
        due.fine(x, "told(3)", x.told(3), 0);
        due.fine(x, "mark anew", x.mark(), 3);
        due.fine(x, "back", x.back(), 2);
        due.fine(x, "back", x.back(), 1);
        due.fine(x, "told(4)", x.told(4), 7);
        due.fine(x, "told(2)", x.told(2), 1);
        due.fine(x, "told(3)", x.told(3), 1);
        due.fine(x, "keep", x.keep(-1), 0);
        Due.rules(x, "if shut do open;if open do shut;");
        due.fine(x, "back to the new object's RIVER", x.back(), 0);
        due.fine(x, "told(4)", x.told(4), 5);
        due.fine(x, "told(2)", x.told(2), 0);
        due.none(x, "no RULES there", x.keep(-1), 6);
        due.none(x, "back", x.back(), 6);
        rulesAlone();
        theRestStays();
        due.end("MarksTest");
    }

    private static void rulesAlone() {
        HornBridge x = Due.at("cart c at 1 takes 2 costs 3;");
        Due.rules(x, "");
        due.fine(x, "mark", x.mark(), 1);
        Due.rules(x, "if shut do open;");
        due.fine(x, "told(3)", x.told(3), 1);
        due.fine(x, "back", x.back(), 0);
        due.fine(x, "told(3)", x.told(3), 0);
        due.fine(x, "empty RULES are read", x.keep(-1), 0);
        due.fine(x, "the cart passes", x.kept(2), 3);
    }

    /** Only the RIVER and the RULES are kept by a MARK. */
    private static void theRestStays() {
        HornBridge x = Due.at("port p calls l;turns 3;ship a of p at 1 takes 4 costs 5;");
        x.mark();
        x.tray(0, 3, 1);
        x.write(0, 0, 77);
        x.plan();
        x.readings(7);
        x.code(2, 1, 0);
        x.doubt(7, 0);
        due.is("feed", x.feed(0, 0, 0, 0, 0), 20);
        due.fine(x, "back", x.back(), 0);
        due.fine(x, "read", x.read(0, 0), 77);
        due.fine(x, "planAt", x.planAt(1, 1), 3);
        due.fine(x, "reading", x.reading(0, 0), 0);
        due.fine(x, "codeAt", x.codeAt(1), 19);
        due.fraction(x, "doubt", 1, 1);
        due.is("feed", x.feed(0, 0, 0, 0, 0), 40);
    }
}
