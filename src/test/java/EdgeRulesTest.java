/** The edges of promises 11 and 45 to 48, sentence by sentence: RULES' text and its FAULTS, a day KEPT, odds and WAITS. */
public final class EdgeRulesTest {
    private static final Due due = new Due();
    private static final String PORT = "port p calls l;";
    private static final String[] CASES = {"ships", "carts", "next", "minute", "turned"};
    private static final String REST = "if open do rest;";

    public static void main(String[] args) {
        rulesOf300Bytes();
        emptyRules();
        rulesInPlaceOfThoseAhead();
        actsAndOthers();
        casesCompareNumbers();
        twelveRules();
        casesInAll();
        withinSix();
        theEnd();
        firstAlongTheText();
        leastKindOfOneToken();
        seeds();
        noRulesWereRead();
        keptTells();
        turnOverByThen();
        passingOverByThen();
        sailsAreStruck();
        shipAheadStillThere();
        turnStrikes();
        firstRuleThatHolds();
        notAndOr();
        notAskedWhileItTurnsOrPasses();
        factsCompared();
        shipsAndCartsCount();
        nextShip();
        turnedAnew();
        frostFromAMinute();
        overWhenAllHavePassed();
        overInMinute301();
        leftComeOrNot();
        drawsOfEachSeed();
        drawsByNumbers();
        oddsFrom0To1();
        manySeeds();
        due.end("EdgeRulesTest");
    }

    // ---- RULES' text

    /** "RULES are a TEXT of at most 300 bytes"; "1: above 300, too". */
    private static void rulesOf300Bytes() {
        HornBridge x = new HornBridge();
        String text = " ".repeat(284) + REST;
        Due.feed(x, text + text);
        due.none(x, "rules(301)", x.rules(301), 1);
        due.none(x, "rules(600)", x.rules(600), 1);
        due.is("no FAULT told", x.fault(0), -1);
        due.is("the tape is as it was", x.feed(0, 0, 0, 0, 0), 620);
        due.fine(x, "rules(300): the last byte counts", x.rules(300), 1);
        due.fine(x, "told(3)", x.told(3), 1);
        due.none(x, "the tape is empty then", x.rules(1), 1);
        Due.feed(x, text);
        due.none(x, "rules(299)", x.rules(299), 9);
        due.is("the end", x.fault(1), 299);
        Due.feed(x, REST);
        for (int n : new int[] {Integer.MIN_VALUE, -1, 21, 300, 301, Integer.MAX_VALUE}) {
            due.none(x, "rules " + n, x.rules(n), 1);
        }
        due.fine(x, "rules(0)", x.rules(0), 0);
    }

    /** A text without a RULE is one that was read. */
    private static void emptyRules() {
        for (String text : new String[] {"", " ", "\n \n"}) {
            HornBridge x = due.rulesTaken(text, 0);
            due.fine(x, "told(3)", x.told(3), 0);
            due.day(x, -1, 0, 0, 0, 0, 0, 0);
        }
    }

    /** "9: the old one stays": likewise the RULES. */
    private static void rulesInPlaceOfThoseAhead() {
        HornBridge x = Due.at("cart c at 0 takes 1 costs 0;", REST + REST);
        due.none(x, "a FAULT", Due.rules(x, REST + REST + REST + "if"), 9);
        due.fine(x, "the old ones", x.told(3), 2);
        due.fine(x, "in their place", Due.rules(x, REST), 1);
        due.fine(x, "the new ones", x.told(3), 1);
        due.fine(x, "the RIVER is as it was", x.told(2), 1);
        due.fine(x, "a RIVER", Due.river(x, ""), 0);
        due.fine(x, "no RULES", x.told(3), 0);
    }

    /** "ACT: open, or shut, or rest"; RULE: if EITHER do ACT ; */
    private static void actsAndOthers() {
        for (String act : new String[] {"open", "shut", "rest"}) {
            due.rulesTaken("if open do " + act + ";", 1);
            due.rulesTaken("if shut do " + act + " ;", 1);
        }
        for (String act : new String[] {"turn", "ships", "if", "not", "opens", "5", ";", "(", "port", "waiting"}) {
            due.rulesFaultAt(2, "if open do ^" + act + ";");
        }
        due.rulesFaultAt(2, "if open ^open;");
        due.rulesFaultAt(2, "if open do open ^open;");
        due.rulesFaultAt(2, "if open do open;^;");
        due.rulesFaultAt(2, "^do open;");
        due.rulesFaultAt(2, "^open;");
        due.rulesFaultAt(2, "if ^rest do open;");
        due.rulesFaultAt(2, "if ^waiting do open;");
        due.rulesFaultAt(2, "if ^if open do open;");
        due.rulesFaultAt(2, "if open and ^and open do open;");
        due.rulesFaultAt(2, "if open or ^or open do open;");
        due.rulesFaultAt(2, "if ^and open do open;");
        due.rulesFaultAt(2, "if open ^not open do open;");
        due.rulesFaultAt(2, "if (open ^do open;");
        due.rulesFaultAt(2, "if open^) do open;");
        due.rulesFaultAt(2, "if (^) do open;");
        due.rulesFaultAt(2, "if (open^( do open;");
        due.rulesFaultAt(2, "if not ^do open;");
        due.rulesFaultAt(2, "if ^turns do open;");
    }

    /** "CASE COMPARES NUMBER"; "(A CASE's NUMBER 0 to 300.)". */
    private static void casesCompareNumbers() {
        for (String what : CASES) {
            for (char compares : new char[] {'<', '>', '='}) {
                for (int number : new int[] {0, 1, 299, 300}) {
                    due.rulesTaken("if " + what + compares + number + " do open;", 1);
                }
                due.rulesFaultAt(4, "if " + what + compares + "^301 do open;");
                due.rulesFaultAt(4, "if " + what + compares + "^9999 do open;");
                due.rulesFaultAt(1, "if " + what + compares + "^10000 do open;");
                due.rulesFaultAt(2, "if " + what + compares + " ^do open;");
                due.rulesFaultAt(2, "if " + what + compares + " ^open do open;");
                due.rulesFaultAt(2, "if " + what + compares + "^=5 do open;");
            }
            due.rulesFaultAt(2, "if " + what + " ^do open;");
            due.rulesFaultAt(2, "if " + what + " ^5 do open;");
            due.rulesFaultAt(2, "if " + what + "^;");
            due.rulesFaultAt(2, "if ^5 < " + what + " do open;");
        }
        due.rulesFaultAt(2, "if open ^= 1 do open;");
        due.rulesFaultAt(2, "if shut ^< 1 do open;");
        due.rulesTaken("if ships=0300 do open;", 1);
    }

    /** "6 a 13th RULE (at its if)". */
    private static void twelveRules() {
        for (int many = 0; many <= 12; many++) {
            HornBridge x = due.rulesTaken(REST.repeat(many), many);
            due.fine(x, "told(3)", x.told(3), many);
        }
        due.rulesFaultAt(6, REST.repeat(12) + "^" + REST);
        due.rulesFaultAt(6, REST.repeat(12) + " \n^if");
        due.rulesFaultAt(2, REST.repeat(12) + "^;");
        due.rulesFaultAt(2, REST.repeat(12) + "^open");
        due.rulesFaultAt(2, REST.repeat(11) + "if open do open ^if");
    }

    /** "a 25th of open, shut, CASE in all (but ACTS; at its WORD)". */
    private static void casesInAll() {
        String two = "if open and shut do open;";
        due.rulesTaken(two.repeat(12), 12);
        due.rulesTaken("if " + "open or ".repeat(23) + "shut do shut;", 1);
        due.rulesFaultAt(6, "if " + "open or ".repeat(24) + "^shut do shut;");
        for (String what : CASES) {
            due.rulesTaken("if " + "open or ".repeat(23) + what + "=1 do shut;", 1);
            due.rulesFaultAt(6, "if " + "open or ".repeat(24) + "^" + what + "=1 do shut;");
            due.rulesTaken("if " + (what + "=1 or ").repeat(23) + "open do shut;", 1);
            due.rulesFaultAt(6, "if " + (what + "=1 or ").repeat(24) + "^open");
        }
        due.rulesFaultAt(6, two.repeat(11) + "if open and shut and ^open");
        due.rulesFaultAt(6, "if " + "open or ".repeat(23) + "shut do shut;if ^open do open;");
        due.rulesFaultAt(6, "if " + "open or ".repeat(24) + "not ^open do open;");
        due.rulesFaultAt(6, "if " + "open or ".repeat(24) + "(^next");
    }

    /** "7 a ONE within six of not and brackets (at its first TOKEN)": within five it may be. */
    private static void withinSix() {
        for (int deep = 0; deep <= 6; deep++) {
            for (int set = 0; set < 1 << deep; set++) {
                StringBuilder ahead = new StringBuilder("if ");
                StringBuilder behind = new StringBuilder();
                for (int i = 0; i < deep; i++) {
                    boolean not = (set >> i & 1) == 1;
                    ahead.append(not ? "not " : "(");
                    behind.append(not ? "" : ")");
                }
                if (deep < 6) {
                    due.rulesTaken(ahead + "open" + behind + " do open;", 1);
                    due.rulesTaken(ahead + "next>7" + behind + " and " + ahead.substring(3) + "open" + behind + " do open;", 1);
                } else {
                    due.rulesFaultAt(7, ahead + "^open" + behind + " do open;");
                    due.rulesFaultAt(7, ahead + "^next" + behind + " do open;");
                    due.rulesFaultAt(7, ahead + "^(open)" + behind + " do open;");
                    due.rulesFaultAt(7, ahead + "^not open" + behind + " do open;");
                    due.rulesFaultAt(2, ahead + "^do open;");
                    due.rulesFaultAt(2, ahead + "^)");
                    due.rulesFaultAt(2, ahead + "^");
                    due.rulesFaultAt(1, ahead + "^#");
                }
            }
        }
        due.rulesFaultAt(7, "if (((((open or (^shut");
        due.rulesTaken("if (((((open))))) or (((((shut))))) and not not not not not open do open;", 1);
    }

    private static void theEnd() {
        String[] tokens = {"if", " open", " and", " not", " (", " ships", " <", " 5", " or", " shut", " )", " do", " shut", ";"};
        StringBuilder text = new StringBuilder();
        for (String token : tokens) {
            if (!token.equals(";")) {
                due.rulesFaultAt(2, text + "^;");
            }
            text.append(token);
            if (token.equals(";")) {
                due.rulesTaken(text.toString(), 1);
            } else {
                due.rulesFaultAt(2, text + "^");
                due.rulesFaultAt(2, text + " \n ^");
            }
        }
    }

    private static void firstAlongTheText() {
        due.rulesFaultAt(4, "if ships < ^301 do turn;#");
        due.rulesFaultAt(2, "if ships < 300 do ^turn;#");
        due.rulesFaultAt(1, "if ships < 300 do rest;^#" + REST);
        due.rulesFaultAt(4, "if next=^301;" + REST.repeat(13));
    }

    /** "of one TOKEN the least kind". */
    private static void leastKindOfOneToken() {
        String cases = "if " + "open or ".repeat(24);
        due.rulesFaultAt(6, cases + "((((((^open");
        due.rulesFaultAt(7, cases + "((((((^(open");
        due.rulesFaultAt(7, cases + "((((((^not open");
        due.rulesFaultAt(2, cases + "((((((^do");
        due.rulesFaultAt(1, cases + "((((((^12345");
        due.rulesFaultAt(2, cases + "^do");
        due.rulesFaultAt(2, "if " + "open or ".repeat(23) + "open ^open do open;");
    }

    // ---- a day

    /** "a seed (0 to 9,999) or without (NONE)". */
    private static void seeds() {
        HornBridge x = Due.at("cart c at 0 takes 1 costs 1;", "");
        for (int seed : new int[] {Integer.MIN_VALUE, -2, 10000, Integer.MAX_VALUE}) {
            due.none(x, "keep(" + seed + ")", x.keep(seed), 1);
        }
        due.none(x, "none was kept", x.kept(0), 6);
        for (int seed : new int[] {-1, 0, 9999}) {
            due.fine(x, "keep(" + seed + ")", x.keep(seed), 0);
        }
    }

    /** "(1; 6: no RULES were read)". */
    private static void noRulesWereRead() {
        HornBridge x = new HornBridge();
        for (int i = 0; i < 2; i++) {
            due.none(x, "keep", x.keep(-1), 6);
            due.none(x, "keep", x.keep(0), 6);
            due.no(x, "odds", x.odds(0, 1), 6);
            due.none(x, "waits", x.waits(9980, 20), 6);
            due.none(x, "a number that can't be, too", x.keep(-2), 1);
            due.no(x, "a number that can't be, too", x.odds(0, 0), 1);
            due.none(x, "a number that can't be, too", x.waits(9981, 20), 1);
            due.none(x, "a FAULT reads none", Due.rules(x, "if"), 9);
        }
        due.fine(x, "rules", Due.rules(x, ""), 0);
        due.fine(x, "keep", x.keep(-1), 0);
        due.none(x, "a RIVER with a FAULT leaves them", Due.river(x, "#"), 9);
        due.fine(x, "keep", x.keep(-1), 0);
        due.fine(x, "a RIVER", Due.river(x, ""), 0);
        due.none(x, "keep", x.keep(-1), 6);
    }

    /** "Of keep() latest with STATUS 0 .. (1; 6: there was none)". */
    private static void keptTells() {
        HornBridge x = Due.at(PORT + "turns 2;ship a of p at 2 takes 3 costs 1;", "if shut do open;");
        for (int what = 0; what < 5; what++) {
            due.none(x, "ahead of any", x.kept(what), 6);
        }
        x.odds(0, 1);
        x.waits(0, 1);
        due.none(x, "odds and waits keep none", x.kept(0), 6);
        for (int i = 0; i < 2; i++) {
            for (int what : new int[] {Integer.MIN_VALUE, -1, 5, Integer.MAX_VALUE}) {
                due.none(x, "kept(" + what + ")", x.kept(what), 1);
            }
            due.day(x, -1, 0, 0, 1, 5, 0, 1);
        }
        x.keep(-2);
        x.keep(10000);
        Due.river(x, "");
        x.keep(-1);
        int[] kept = {0, 1, 5, 0, 1};
        for (int what = 0; what < 5; what++) {
            due.fine(x, "as ahead", x.kept(what), kept[what]);
        }
    }

    /** A day, and the same once more: each begins anew in minute 0, SHUT. */
    private static void day(String river, String rules, int waits, int... kept) {
        HornBridge x = Due.at(river, rules);
        due.day(x, -1, waits, kept);
        due.day(x, -1, waits, kept);
    }

    /** "(1) a turn .. that is over by then is over": in the minute in which it ends one begins. */
    private static void turnOverByThen() {
        day(PORT + "turns 3;ship a of p at 3 takes 1 costs 9;", "if shut do open;", 0, 0, 1, 4, 0, 1);
        day(PORT + "turns 3;ship a of p at 2 takes 1 costs 9;", "if shut do open;", 9, 0, 1, 4, 0, 1);
        day(PORT + "turns 3;ship a of p at 3 takes 1 costs 9 sail;", "if shut do open;", 0, 0, 1, 4, 0, 1);
        day(PORT + "turns 3;ship a of p at 2 takes 1 costs 9 sail;", "if shut do open;", 0, 1, 1, 3, 0, 0);
        // Just OPEN anew it may turn again, and nobody passes.
        day(PORT + "turns 3;ship a of p at 0 takes 1 costs 9;cart c at 0 takes 1 costs 0;", "if carts>0 and shut do open;if open do shut;",
                0, 0, 101, 301, 2, 0);
    }

    private static void passingOverByThen() {
        day("cart c at 0 takes 5 costs 1;cart d at 5 takes 1 costs 1;", "", 0, 0, 0, 6, 0, 0);
        day("cart c at 0 takes 5 costs 1;cart d at 4 takes 1 costs 1;", "", 1, 0, 0, 6, 0, 0);
        String river = PORT + "turns 1;ship a of p at 1 takes 5 costs 1;ship b of p at ^ takes 2 costs 1 sail;";
        day(river.replace("^", "6"), "if shut do open;", 0, 0, 1, 8, 0, 2);
        day(river.replace("^", "5"), "if shut do open;", 0, 1, 1, 6, 0, 1);
    }

    /** "(2) A SAIL whose minute it is, that can't begin at once (the bridge not OPEN, somebody passing, ..) is STRUCK". */
    private static void sailsAreStruck() {
        String sail = PORT + "turns 2;ship a of p at 5 takes 2 costs 9 sail;";
        day(sail, "", 0, 1, 0, 6, 0, 0);
        day(sail, "if minute=3 do open;", 0, 0, 1, 7, 0, 1);
        day(sail, "if minute=4 do open;", 0, 1, 1, 6, 0, 0);
        day(sail, "if minute=5 do open;", 0, 1, 1, 6, 0, 0);
        // Not a SAIL: it waits.
        day(sail.replace(" sail", ""), "if minute=4 do open;", 9, 0, 1, 8, 0, 1);
        // Those STRUCK are without WAITS, and not left.
        day(PORT + "ship a of p at 0 takes 1 costs 99 sail;cart c at 0 takes 9 costs 1;", "", 0, 1, 0, 9, 0, 0);
        StringBuilder six = new StringBuilder(PORT);
        for (char c = 'a'; c < 'g'; c++) {
            six.append("ship s").append(c).append(" of p at 9 takes 1 costs 9 sail;");
        }
        day(six.toString(), "", 0, 6, 0, 10, 0, 0);
        day(six.toString(), "if shut do open;", 0, 5, 1, 10, 0, 1);
    }

    /** "a SHIP ahead of it still there". */
    private static void shipAheadStillThere() {
        String open = "if shut do open;";
        String a = "ship a of p at 9 takes 1 costs 1;";
        day(PORT + a + "ship b of p at 9 takes 1 costs 1 sail;", open, 0, 1, 1, 10, 0, 1);
        day(PORT + a + "ship b of p at 10 takes 1 costs 1 sail;", open, 0, 0, 1, 11, 0, 2);
        day(PORT + "ship b of p at 9 takes 1 costs 1 sail;" + a, open, 1, 0, 1, 11, 0, 2);
        // Two come while it turns: in the minute in which it is OPEN, the first is still there.
        day(PORT + "turns 5;ship a of p at 4 takes 1 costs 1;ship b of p at 5 takes 1 costs 1 sail;", open, 1, 1, 1, 6, 0, 1);
        // A SAIL that was STRUCK is gone: it is no more ahead.
        day(PORT + "turns 5;ship a of p at 4 takes 1 costs 1 sail;ship b of p at 5 takes 1 costs 1 sail;", open, 0, 1, 1, 6, 0, 1);
    }

    /** "a turn begun in (3) of that minute STRIKES it". */
    private static void turnStrikes() {
        String sail = PORT + "turns 2;ship a of p at 9 takes 1 costs 1 sail;";
        day(sail, "if minute=0 do open;if minute=8 do rest;", 0, 0, 1, 10, 0, 1);
        day(sail, "if minute=0 do open;if minute=9 do shut;", 0, 1, 2, 10, 0, 0);
        day(sail, "if minute=0 do open;if minute=10 do shut;", 0, 0, 1, 10, 0, 1);
        day(sail, "if minute=0 do open;if minute=8 do shut;", 0, 1, 2, 10, 0, 0);
        // The other one of that minute was STRUCK already.
        day(sail + "ship b of p at 9 takes 1 costs 1 sail;", "if minute=0 do open;if minute=9 do shut;", 0, 2, 2, 10, 0, 0);
        // One that is no SAIL stays.
        day(sail.replace(" sail", ""), "if minute=0 do open;if minute=9 do shut;if minute=20 do open;", 13, 0, 3, 23, 0, 1);
        // What is so already is no turn, and STRIKES none.
        day(sail, "if minute=0 do open;if minute=9 do open;", 0, 0, 1, 10, 0, 1);
    }

    /** "the first RULE that holds: open (shut): it begins to turn, if it is not so; rest, none: nothing". */
    private static void firstRuleThatHolds() {
        String ship = PORT + "turns 2;ship a of p at 0 takes 1 costs 1;";
        day(ship, "if minute=3 do open;", 5, 0, 1, 6, 0, 1);
        day(ship, "if minute=3 do rest;if minute<5 and minute>2 do open;", 6, 0, 1, 7, 0, 1);
        day(ship, "if minute=3 do shut;if minute<5 and minute>2 do open;", 6, 0, 1, 7, 0, 1);
        day(ship, "if minute=3 do open;if minute=3 do shut;", 5, 0, 1, 6, 0, 1);
        day(ship, "if minute=3 and open do shut;if minute=3 do open;", 5, 0, 1, 6, 0, 1);
        day(ship, "if minute>300 do open;", 0, 0, 0, 301, 1, 0);
        day(ship, "if shut do shut;if shut do open;", 0, 0, 0, 301, 1, 0);
        // The last of twelve.
        day(ship, "if open do rest;".repeat(11) + "if shut do open;", 2, 0, 1, 3, 0, 1);
    }

    /** "(3) If the bridge is OPEN or SHUT and nobody passes"; "(4) If it does not turn and nobody passes". */
    private static void notAskedWhileItTurnsOrPasses() {
        String ship = PORT + "turns 3;cart c at 0 takes 5 costs 1;ship a of p at 0 takes 1 costs 1;";
        day(ship, "if minute>0 and minute<5 do open;if minute=9 do open;", 12, 0, 1, 13, 0, 1);
        day(ship, "if minute=5 do open;if minute>5 and minute<8 do shut;", 8, 0, 1, 9, 0, 1);
        day(ship, "if minute=0 do open;if open and ships=0 do shut;", 3 + 7, 0, 2, 12, 0, 1);
        // In the minute in which a passing is over, a turn may begin ahead of the next.
        day("cart c at 0 takes 5 costs 1;cart d at 0 takes 5 costs 1;", "if minute=5 do open;if open do shut;",
                15, 0, 2, 20, 0, 0);
    }

    /** "EITHER: BOTH {or BOTH}. BOTH: ONE {and ONE}. ONE: not ONE, or ( EITHER )": not ahead of and, and ahead of or. */
    private static void notAndOr() {
        String ship = PORT + "turns 1;ship a of p at 0 takes 1 costs 1;";
        String[] truths = {"open", "shut"};
        for (int set = 0; set < 8; set++) {
            boolean a = (set & 1) == 1;
            boolean b = (set & 2) == 2;
            boolean c = (set & 4) == 4;
            String as = truths[set & 1];
            String bs = truths[set >> 1 & 1];
            String cs = truths[set >> 2 & 1];
            holds(ship, as, a);
            holds(ship, "not " + as, !a);
            holds(ship, as + " and " + bs, a && b);
            holds(ship, as + " or " + bs, a || b);
            holds(ship, "not " + as + " and " + bs, !a && b);
            holds(ship, "not " + as + " or " + bs, !a || b);
            holds(ship, "not (" + as + " and " + bs + ")", !(a && b));
            holds(ship, "not (" + as + " or " + bs + ")", !(a || b));
            holds(ship, as + " and not " + bs, a && !b);
            holds(ship, as + " or not " + bs, a || !b);
            holds(ship, as + " and " + bs + " and " + cs, a && b && c);
            holds(ship, as + " or " + bs + " or " + cs, a || b || c);
            holds(ship, as + " and " + bs + " or " + cs, a && b || c);
            holds(ship, as + " or " + bs + " and " + cs, a || b && c);
            holds(ship, "(" + as + " or " + bs + ") and " + cs, (a || b) && c);
            holds(ship, as + " and (" + bs + " or " + cs + ")", a && (b || c));
            holds(ship, "not not " + as + " or not (not " + bs + " or " + cs + ")", a || !(!b || c));
        }
    }

    /** Of a minute in which it is SHUT. */
    private static void holds(String river, String either, boolean want) {
        HornBridge x = Due.at(river, "if (" + either + ") and minute=7 do open;");
        due.fine(x, either, x.keep(-1), want ? 8 : 0);
    }

    /** "COMPARES: < or > or =": just below, just so, just above. */
    private static void factsCompared() {
        String ship = PORT + "turns 1;ship a of p at 0 takes 1 costs 1;";
        for (int number = 0; number < 8; number++) {
            day(ship, "if minute=" + number + " do open;", number + 1, 0, 1, number + 2, 0, 1);
            day(ship, "if minute>" + number + " do open;", number + 2, 0, 1, number + 3, 0, 1);
            day(ship, "if not minute<" + number + " do open;", number + 1, 0, 1, number + 2, 0, 1);
            if (number > 0) {
                day(ship, "if minute<" + number + " do open;", 1, 0, 1, 2, 0, 1);
            }
        }
        day(ship, "if minute<0 do open;", 0, 0, 0, 301, 1, 0);
        day(ship, "if minute=300 do open;", 0, 0, 1, 301, 1, 0);
        day(ship, "if minute=299 do open;", 300, 0, 1, 301, 0, 1);
    }

    /** "how many have come and neither begun nor are STRUCK". */
    private static void shipsAndCartsCount() {
        String ships = PORT + "turns 1;ship a of p at 4 takes 1 costs 0;ship b of p at 6 takes 1 costs 0;ship c of p at 6 takes 1 costs 0;";
        opensAt(ships, "ships>0", 4);
        opensAt(ships, "ships=1", 4);
        opensAt(ships, "ships>1", 6);
        opensAt(ships, "ships=2", -1);
        opensAt(ships, "ships=3", 6);
        opensAt(ships, "ships>3", -1);
        opensAt(ships, "not ships<3", 6);
        String struck = PORT + "turns 1;ship a of p at 4 takes 1 costs 0 sail;ship b of p at 6 takes 1 costs 0;";
        opensAt(struck, "ships>0", 6);
        opensAt(struck, "ships>1", -1);
        String carts = PORT + "turns 1;cart c at 0 takes 9 costs 0;cart d at 4 takes 3 costs 0;cart e at 12 takes 5 costs 0;"
                + "ship a of p at 120 takes 1 costs 0;";
        // One who passes is counted no more; in minute 9 the second is still there, in 12 the third.
        opensAt(carts, "carts>0", 0);
        opensAt(carts, "carts=1 and minute>0", 9);
        opensAt(carts, "carts>0 and minute>9", 12);
        opensAt(carts, "carts=0 and minute>0", 17);
        opensAt(carts, "carts>1", -1);
    }

    /** The first minute in which this holds, as it stays SHUT till then; -1: it never does. */
    private static void opensAt(String river, String either, int minute) {
        if (minute < 0) {
            turns(river, "if " + either + " do open;", 0);
        } else {
            turns(river, "if minute<" + minute + " and (" + either + ") do open;", 0);
            turns(river, "if minute=" + minute + " and (" + either + ") do open;", 1);
        }
    }

    private static void turns(String river, String rules, int want) {
        HornBridge x = Due.at(river, rules);
        x.keep(-1);
        due.fine(x, "turns by " + rules, x.kept(1), want);
    }

    /** "next: in how many minutes the next SHIP comes that has not (300 without one)". */
    private static void nextShip() {
        String ships = PORT + "turns 1;ship a of p at 4 takes 1 costs 0;ship b of p at 9 takes 1 costs 0;cart c at 60 takes 1 costs 0;";
        opensAt(ships, "next=4", 0);
        opensAt(ships, "next=1", 3);
        // In minute 4 the first has come, so that the next is the second.
        opensAt(ships, "next=5", 4);
        opensAt(ships, "next<1", -1);
        opensAt(ships, "next=0", -1);
        opensAt(ships, "next>5", 9);
        opensAt(ships, "next=300", 9);
        opensAt(ships, "next=299", -1);
        opensAt(ships, "next>300", -1);
        opensAt("cart c at 60 takes 1 costs 0;", "next=300", 0);
        opensAt(PORT + "ship a of p at 120 takes 1 costs 0 sail;", "next=120", 0);
        opensAt(PORT + "ship a of p at 120 takes 1 costs 0 sail;", "next<2", 119);
        // By numbers the later one stands first.
        opensAt(PORT + "ship a of p at 9 takes 1 costs 0;ship b of p at 4 takes 1 costs 0;", "next<3", 2);
    }

    /** "turned: how many minutes ago it was OPEN or SHUT latest anew (from minute 0)". */
    private static void turnedAnew() {
        String ship = PORT + "turns 2;ship a of p at 100 takes 1 costs 1;";
        opensAt(ship, "turned=0", 0);
        day(ship.replace("at 100", "at 0"), "if turned=7 do open;", 9, 0, 1, 10, 0, 1);
        opensAt(ship, "turned=7", 7);
        opensAt(ship, "turned>7", 8);
        opensAt(ship, "turned=100", 100);
        // OPEN anew in minute 9; SHUT anew in 14; OPEN anew in 101: the SHIP has waited a minute.
        day(ship, "if shut and minute=7 do open;if open and turned=3 do shut;if shut and turned=85 do open;", 1, 0, 3, 102, 0, 1);
        day(ship, "if shut and minute=7 do open;if open and turned=3 do shut;if shut and turned=84 do open;", 0, 0, 3, 101, 0, 1);
        // In the minute in which it is OPEN anew it is 0.
        day(ship, "if minute=0 do open;if open and turned=0 do shut;", 0, 0, 2, 301, 1, 0);
        // A passing does not begin it anew.
        day(PORT + "turns 2;ship a of p at 5 takes 4 costs 1;cart c at 0 takes 1 costs 0;", "if minute=1 do open;if open and turned=6 do shut;",
                0, 0, 1, 9, 0, 1);
    }

    /** "frost 7 from 10": a turn begun in minute 9 or 10. */
    private static void frostFromAMinute() {
        String ship = PORT + "turns 3;frost 7 from 10;ship a of p at 0 takes 1 costs 1;";
        day(ship, "if minute=9 do open;", 12, 0, 1, 13, 0, 1);
        day(ship, "if minute=10 do open;", 20, 0, 1, 21, 0, 1);
        day(ship, "if minute=11 do open;", 21, 0, 1, 22, 0, 1);
        day(ship.replace("10", "0"), "if minute=0 do open;", 10, 0, 1, 11, 0, 1);
    }

    /** "Over in (1) of the minute in which all have passed or are STRUCK". */
    private static void overWhenAllHavePassed() {
        day("", "", 0, 0, 0, 0, 0, 0);
        day("", "if shut do open;", 0, 0, 0, 0, 0, 0);
        day("cart c at 0 takes 1 costs 1;", "", 0, 0, 0, 1, 0, 0);
        day("cart c at 120 takes 20 costs 1;", "", 0, 0, 0, 140, 0, 0);
        // STRUCK in (2) of minute 0: so it is in (1) of minute 1.
        day(PORT + "ship a of p at 0 takes 1 costs 1 sail;", "", 0, 1, 0, 1, 0, 0);
        // A turn doesn't keep it from being over; one begun in the minute of the stroke counts.
        day(PORT + "turns 20;ship a of p at 5 takes 1 costs 1 sail;", "if minute=3 do open;", 0, 1, 1, 6, 0, 0);
        day(PORT + "turns 20;ship a of p at 5 takes 1 costs 1 sail;", "if minute=5 do open;", 0, 1, 1, 6, 0, 0);
        day(PORT + "turns 20;ship a of p at 5 takes 1 costs 1 sail;", "if minute=6 do open;", 0, 1, 0, 6, 0, 0);
        // A passing does.
        day(PORT + "turns 1;ship a of p at 5 takes 9 costs 1;ship b of p at 6 takes 1 costs 1 sail;", "if shut do open;",
                0, 1, 1, 14, 0, 1);
    }

    /** "else in minute 301". */
    private static void overInMinute301() {
        String ship = PORT + "turns 1;ship a of p at 0 takes ^ costs 1;";
        day(ship.replace("^", "1"), "if minute=298 do open;", 299, 0, 1, 300, 0, 1);
        day(ship.replace("^", "2"), "if minute=298 do open;", 299, 0, 1, 301, 0, 1);
        day(ship.replace("^", "1"), "if minute=299 do open;", 300, 0, 1, 301, 0, 1);
        day(ship.replace("^", "2"), "if minute=299 do open;", 300, 0, 1, 301, 0, 0);
        day(ship.replace("^", "1"), "if minute=300 do open;", 0, 0, 1, 301, 1, 0);
        day(ship.replace("^", "1"), "", 0, 0, 0, 301, 1, 0);
        // A turn a minute, with a minute between: in each even minute, 0 to 300.
        day(ship.replace("^", "1"), "if ships=1 and open do shut;if ships=1 do open;", 0, 0, 301, 301, 1, 0);
    }

    /** "how many were left (come or not, not begun)". */
    private static void leftComeOrNot() {
        day(PORT + "ship a of p at 0 takes 1 costs 1;ship b of p at 120 takes 1 costs 1;", "", 0, 0, 0, 301, 2, 0);
        day("cart c at 0 takes 1 costs 1;cart d at 120 takes 1 costs 1;", "if shut do open;", 0, 0, 1, 301, 2, 0);
        day(PORT + "ship a of p at 0 takes 1 costs 1 sail;ship b of p at 0 takes 1 costs 1;cart c at 0 takes 1 costs 1;", "",
                0, 1, 0, 301, 1, 0);
        StringBuilder all = new StringBuilder(PORT);
        for (char c = 'a'; c < 'g'; c++) {
            all.append("ship s").append(c).append(" of p at 0 takes 1 costs 1;cart c").append(c).append(" at 0 takes 1 costs 1;");
        }
        day(all.toString(), "if open do shut;if shut do open;", 0, 0, 61, 301, 12, 0);
        day(all.toString(), "", 15, 0, 0, 301, 6, 0);
    }

    // ---- draws

    private static int nextDraw(int[] s) {
        s[0] = (int) ((s[0] * 2749L + 12553) % 65536);
        return s[0] / 8 % 8;
    }

    /** "comes later by a draw by 8": of each seed, from 0 to 9,999; by no seed it comes as told. */
    private static void drawsOfEachSeed() {
        boolean[] drawn = new boolean[8];
        for (int from = 0; from < 10000; from += 200) {
            HornBridge x = Due.at("cart c at 0 takes 1 costs 1;", "");
            for (int seed = from; seed < from + 200; seed++) {
                int draw = nextDraw(new int[] {seed});
                drawn[draw] = true;
                x.keep(seed);
                due.fine(x, "seed " + seed, x.kept(2), draw + 1);
            }
        }
        for (int draw = 0; draw < 8; draw++) {
            due.is("drawn: " + draw, drawn[draw], true);
        }
        due.day(Due.at("cart c at 0 takes 1 costs 1;", ""), -1, 0, 0, 0, 1, 0, 0);
        // By hand: 0 becomes 12553, a draw of 1; 9,999 becomes 40220, a draw of 3.
        due.day(Due.at("cart c at 0 takes 1 costs 1;", ""), 0, 0, 0, 0, 2, 0, 0);
        due.day(Due.at("cart c at 0 takes 1 costs 1;", ""), 9999, 0, 0, 0, 4, 0, 0);
    }

    /** "each SHIP, then each CART, by numbers": not as they stand in the text, not as they come. */
    private static void drawsByNumbers() {
        for (int seed = 0; seed < 40; seed++) {
            int[] s = {seed};
            int[] draws = new int[4];
            for (int i = 0; i < 4; i++) {
                draws[i] = nextDraw(s);
            }
            comes(seed, "ship a of p at 30 takes 1 costs 9;ship b of p at 0 takes 1 costs 0;", 30 + draws[0]);
            comes(seed, "ship b of p at 0 takes 1 costs 0;ship a of p at 30 takes 1 costs 9;", 30 + draws[1]);
            comes(seed, "cart c at 0 takes 1 costs 0;ship a of p at 30 takes 1 costs 9;", 30 + draws[0]);
            comes(seed, "cart c at 0 takes 1 costs 0;ship b of p at 0 takes 1 costs 0;ship a of p at 30 takes 1 costs 9;", 30 + draws[1]);
            HornBridge carts = Due.at("cart d at 30 takes 1 costs 0;" + PORT + "cart e at 0 takes 1 costs 0;ship a of p at 0 takes 1 costs 0 sail;", "");
            carts.keep(seed);
            due.fine(carts, "the first CART behind the SHIP", carts.kept(2), 30 + draws[1] + 1);
        }
    }

    /** When the SHIP that costs comes: it begins in minute 50, when it is OPEN. */
    private static void comes(int seed, String parts, int minute) {
        HornBridge x = Due.at(PORT + "turns 1;" + parts, "if minute=49 do open;");
        int others = parts.contains("ship b") ? 1 : 0;
        due.fine(x, "keep " + parts, x.keep(seed), 9 * (50 + others - minute));
    }

    /** "with how many of so many seeds .. none is STRUCK, none left": none of them, all, some. */
    private static void oddsFrom0To1() {
        String sail = PORT + "turns ^;ship a of p at 0 takes 1 costs 1 sail;";
        String ship = PORT + "turns 1;ship a of p at 0 takes 1 costs 1;";
        odds(Due.at(ship, ""), 0, 20, 0, 1);
        odds(Due.at(ship, "if shut do open;"), 0, 20, 1, 1);
        odds(Due.at("cart c at 0 takes 1 costs 1;", ""), 9999, 1, 1, 1);
        odds(Due.at("cart c at 0 takes 1 costs 1;", "if shut do open;"), 9999, 1, 0, 1);
        for (int turns = 1; turns <= 8; turns++) {
            HornBridge x = Due.at(sail.replace("^", "" + turns), "if shut do open;");
            for (int many = 1; many <= 20; many++) {
                int good = 0;
                for (int seed = 100; seed < 100 + many; seed++) {
                    good += nextDraw(new int[] {seed}) >= turns ? 1 : 0;
                }
                int divisor = java.math.BigInteger.valueOf(good).gcd(java.math.BigInteger.valueOf(many)).intValue();
                odds(x, 100, many, good / divisor, many / divisor);
            }
        }
    }

    private static void odds(HornBridge x, int seed, int many, int top, int bottom) {
        due.fine(x, "odds", x.odds(seed, many));
        due.fraction(x, "odds", top, bottom);
    }

    /** "so many seeds (1 to 20) from one on .. (1: the last above 9,999, too; 6)". */
    private static void manySeeds() {
        HornBridge x = Due.at("cart c at 0 takes 5 costs 1;cart d at 4 takes 1 costs 3;", "");
        for (int many : new int[] {Integer.MIN_VALUE, -1, 0, 21, Integer.MAX_VALUE}) {
            due.no(x, "odds of " + many, x.odds(0, many), 1);
            due.none(x, "waits of " + many, x.waits(0, many), 1);
        }
        for (int seed : new int[] {Integer.MIN_VALUE, -1, 10000, Integer.MAX_VALUE}) {
            due.no(x, "odds from " + seed, x.odds(seed, 1), 1);
            due.none(x, "waits from " + seed, x.waits(seed, 1), 1);
        }
        due.fraction(x, "as at first", 0, 1);
        for (int many = 1; many <= 20; many++) {
            due.fine(x, "odds to the last seed", x.odds(10000 - many, many));
            due.no(x, "odds a seed further", x.odds(10001 - many, many), 1);
            int all = 0;
            for (int seed = 10000 - many; seed < 10000; seed++) {
                all += x.keep(seed);
            }
            due.fine(x, "waits to the last seed", x.waits(10000 - many, many), all);
            due.none(x, "waits a seed further", x.waits(10001 - many, many), 1);
        }
        int all = 0;
        for (int many = 1; many <= 20; many++) {
            all += x.keep(many - 1);
            due.fine(x, "from 0", x.waits(0, many), all);
        }
        due.is("some wait", all > 0, true);
    }
}
