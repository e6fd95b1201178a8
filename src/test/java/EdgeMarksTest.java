/** The edges of promises 49 and 50, sentence by sentence: MARKS. */
public final class EdgeMarksTest {
    private static final Due due = new Due();

    public static void main(String[] args) {
        noneAtFirst();
        atMostThree();
        latestFirst();
        markIsGoneThen();
        sameTwice();
        riverAsItWas();
        rulesAsTheyWere();
        noRulesAsThereWere();
        emptyRulesAsTheyWere();
        afterTextsWithFaults();
        nothingElseIsTakenBack();
        marksOutliveRivers();
        due.end("EdgeMarksTest");
    }

    /** "6" of back() without a MARK. */
    private static void noneAtFirst() {
        HornBridge x = new HornBridge();
        due.none(x, "back", x.back(), 6);
        Due.river(x, "turns 7;");
        due.none(x, "back", x.back(), 6);
        due.fine(x, "nothing is taken back", x.told(4), 7);
    }

    /** "MARKS, at most 3"; "(4)". */
    private static void atMostThree() {
        HornBridge x = new HornBridge();
        for (int many = 1; many <= 3; many++) {
            Due.river(x, "turns " + many + ";");
            due.fine(x, "mark", x.mark(), many);
        }
        Due.river(x, "turns 4;");
        due.none(x, "a fourth", x.mark(), 4);
        due.none(x, "a fourth again", x.mark(), 4);
        due.fine(x, "nothing is taken back", x.told(4), 4);
        for (int many = 2; many >= 0; many--) {
            due.fine(x, "back", x.back(), many);
            due.fine(x, "the refused one is none", x.told(4), many + 1);
        }
        due.none(x, "no more", x.back(), 6);
        due.fine(x, "as the first was", x.told(4), 1);
    }

    /** "taken back to the latest MARK". */
    private static void latestFirst() {
        HornBridge x = new HornBridge();
        Due.river(x, "echo 1;");
        x.mark();
        Due.river(x, "echo 2;");
        x.mark();
        Due.river(x, "echo 3;");
        due.fine(x, "to the second", x.back(), 1);
        due.fine(x, "ECHO", x.told(7), 2);
        Due.river(x, "echo 4;");
        due.fine(x, "to the first", x.back(), 0);
        due.fine(x, "ECHO", x.told(7), 1);
    }

    /** "which is gone then": room for another. */
    private static void markIsGoneThen() {
        HornBridge x = new HornBridge();
        x.mark();
        x.mark();
        x.mark();
        for (int i = 0; i < 5; i++) {
            due.fine(x, "back", x.back(), 2);
            Due.river(x, "echo " + i + ";");
            due.fine(x, "mark", x.mark(), 3);
            due.none(x, "mark", x.mark(), 4);
        }
        due.fine(x, "back", x.back(), 2);
        due.fine(x, "the last of those", x.told(7), 4);
        due.fine(x, "back", x.back(), 1);
        due.fine(x, "as at first", x.told(7), 0);
        due.fine(x, "back", x.back(), 0);
        due.none(x, "back", x.back(), 6);
    }

    private static void sameTwice() {
        HornBridge x = Due.at("turns 7;");
        due.fine(x, "mark", x.mark(), 1);
        due.fine(x, "mark", x.mark(), 2);
        Due.river(x, "turns 8;");
        due.fine(x, "back", x.back(), 1);
        due.fine(x, "TURNS", x.told(4), 7);
        Due.river(x, "turns 9;");
        due.fine(x, "back", x.back(), 0);
        due.fine(x, "TURNS", x.told(4), 7);
    }

    /** "the RIVER .. kept as .. are": all of it. */
    private static void riverAsItWas() {
        String river = "port p calls lsl;port q calls s;turns 7;frost 3 from 4;echo 5;ship a of q at 9 takes 8 costs 7 sail;"
                + "ship b of p at 2 takes 2 costs 2;cart c at 3 takes 4 costs 5;";
        HornBridge x = Due.at(river);
        x.mark();
        Due.river(x, "port z calls ll;port y calls ls;port w calls sl;turns 1;frost 9 from 9;echo 9;"
                + "ship e of z at 0 takes 1 costs 0;cart f at 0 takes 1 costs 0;cart g at 0 takes 1 costs 0;");
        Due.river(x, "");
        due.fine(x, "back", x.back(), 0);
        due.is("all of it", Seen.of(x).get(Seen.RIVER).equals(Seen.of(Due.at(river)).get(Seen.RIVER)), true);
    }

    /** "and the RULES are kept as they are". */
    private static void rulesAsTheyWere() {
        HornBridge x = Due.at("port p calls l;turns 1;ship a of p at 0 takes 1 costs 1;", "if minute=4 do open;");
        x.mark();
        Due.rules(x, "if minute=9 do open;if open do rest;");
        due.fine(x, "the new ones", x.keep(-1), 10);
        due.fine(x, "told(3)", x.told(3), 2);
        due.fine(x, "back", x.back(), 0);
        due.fine(x, "the old ones", x.keep(-1), 5);
        due.fine(x, "told(3)", x.told(3), 1);
        x.mark();
        Due.river(x, "");
        due.none(x, "no RULES", x.keep(-1), 6);
        due.fine(x, "back", x.back(), 0);
        due.fine(x, "both as they were", x.keep(-1), 5);
    }

    private static void noRulesAsThereWere() {
        HornBridge x = Due.at("cart c at 0 takes 1 costs 1;");
        x.mark();
        Due.rules(x, "if open do shut;");
        due.fine(x, "keep", x.keep(-1), 0);
        due.fine(x, "back", x.back(), 0);
        due.none(x, "no RULES were read", x.keep(-1), 6);
        due.fine(x, "told(3)", x.told(3), 0);
    }

    private static void emptyRulesAsTheyWere() {
        HornBridge x = Due.at("cart c at 0 takes 1 costs 1;", "");
        x.mark();
        Due.river(x, "");
        due.none(x, "no RULES", x.keep(-1), 6);
        due.fine(x, "back", x.back(), 0);
        due.fine(x, "an empty text was read", x.keep(-1), 0);
    }

    private static void afterTextsWithFaults() {
        HornBridge x = Due.at("turns 7;", "if open do shut;");
        x.mark();
        Due.river(x, "turns 8;#");
        Due.rules(x, "if open do shut;#");
        due.fine(x, "TURNS", x.told(4), 7);
        Due.river(x, "turns 8;");
        due.fine(x, "back", x.back(), 0);
        due.fine(x, "TURNS", x.told(4), 7);
        due.fine(x, "RULES", x.told(3), 1);
    }

    /** The RIVER and the RULES alone are kept by a MARK: the rest stays as it is. */
    private static void nothingElseIsTakenBack() {
        HornBridge x = Due.at("port p calls l;turns 3;ship a of p at 1 takes 4 costs 5;", "if shut do open;");
        x.tray(0, 3, 1);
        x.mark();
        x.tray(1, 0, 2);
        x.write(0, 0, 7);
        x.doubt(7, 0);
        x.odds(0, 1);
        x.readings(7);
        x.code(1, 1, 0);
        x.plan();
        x.keep(-1);
        Due.rules(x, "#");
        due.is("feed", x.feed(0, 0, 0, 0, 0), 20);
        due.fine(x, "back", x.back(), 0);
        due.fine(x, "a TRAY", x.read(0, 0), 7);
        due.fine(x, "another TRAY", x.read(1, 1), 0);
        due.fraction(x, "the FRACTION", 1, 1);
        due.fine(x, "READINGS", x.reading(0, 0), 0);
        due.fine(x, "the CODE", x.codeAt(0), 12);
        due.fine(x, "the PLAN", x.planAt(1, 1), 3);
        due.fine(x, "the day KEPT", x.kept(2), 7);
        due.is("the FAULT", x.fault(0), 1);
        due.is("the tape", x.feed(0, 0, 0, 0, 0), 40);
    }

    private static void marksOutliveRivers() {
        HornBridge x = new HornBridge();
        x.mark();
        Due.river(x, "turns 7;");
        Due.river(x, "turns 8;");
        Due.rules(x, "");
        due.fine(x, "mark", x.mark(), 2);
        due.fine(x, "back", x.back(), 1);
        due.fine(x, "TURNS", x.told(4), 8);
        due.fine(x, "back", x.back(), 0);
        due.fine(x, "TURNS", x.told(4), 5);
    }
}
