/** The edges of promises 33 to 44, sentence by sentence: LEAST, PLAN and what is told by them. */
public final class EdgeWaitsTest {
    private static final Due due = new Due();
    private static final String PORT = "port p calls l;";
    /** Six SHIPS that keep the bridge OPEN from minute 140 on, if it turns as slowly as it can. */
    private static final String SIX_SHIPS = PORT + "turns 20;frost 20 from 0;" + six("ship s^ of p at 120 takes 20 costs 1;");
    private static final String SIX_CARTS = six("cart c^ at 120 takes 20 costs 1;");

    public static void main(String[] args) {
        nobody();
        shutAtMinute0();
        notAheadOfItsOwn();
        staysTillItHasPassed();
        asTheyCome();
        lastInMinute240();
        sailInItsOwnMinute();
        sailsAndOthers();
        frostInOrBehindAMinute();
        waitsTimesCost();
        beginsRatherThanRests();
        restsRatherThanTurns();
        beginningWouldCostMore();
        twentyFourActs();
        planAtTells();
        leastStaysTheSame();
        worth();
        quicker1To20();
        awayTheFewest();
        awayTheLeastOfSeveral();
        later0To60();
        slack0To60();
        slackLeapsOver();
        without();
        dearestOfSeveral();
        dearestOfBoth();
        nobodyIsDearest();
        opened();
        busiestFirst();
        nobodyWaits();
        cannotPass();
        due.end("EdgeWaitsTest");
    }

    private static String six(String one) {
        StringBuilder all = new StringBuilder();
        for (char c = 'a'; c < 'g'; c++) {
            all.append(one.replace('^', c));
        }
        return all.toString();
    }

    private static void least(String river, int want) {
        HornBridge x = Due.at(river);
        due.fine(x, "least " + river, x.least(), want);
    }

    private static void hopeless(String river) {
        HornBridge x = Due.at(river);
        due.none(x, "least " + river, x.least(), 6);
        due.none(x, "plan " + river, x.plan(), 6);
    }

    private static void nobody() {
        for (String river : new String[] {"", PORT, "turns 20;frost 20 from 0;"}) {
            HornBridge x = Due.at(river);
            due.fine(x, "least", x.least(), 0);
            due.acts(x);
            due.fine(x, "away", x.away(), 0);
            due.fine(x, "opened", x.opened(), 0);
            due.fine(x, "quicker", x.quicker(20), 0);
            due.none(x, "dearest", x.dearest(), 6);
            due.none(x, "busiest", x.busiest(), 6);
            due.none(x, "worth", x.worth(0), 1);
            due.none(x, "slack", x.slack(0), 1);
            due.none(x, "later", x.later(0, 0), 1);
            due.none(x, "without", x.without(0), 1);
        }
    }

    /** "at minute 0 SHUT". */
    private static void shutAtMinute0() {
        HornBridge x = Due.at("cart c at 0 takes 1 costs 99;");
        due.fine(x, "a CART passes at once", x.least(), 0);
        due.acts(x, new int[] {1, 0, 0});
        HornBridge y = Due.at(PORT + "turns 1;ship a of p at 0 takes 1 costs 99;");
        due.fine(y, "a SHIP behind a turn", y.least(), 99);
        due.acts(y, new int[] {2, 0}, new int[] {0, 1, 0});
    }

    /** "begins in a minute not ahead of its own". */
    private static void notAheadOfItsOwn() {
        HornBridge x = Due.at(PORT + "turns 1;ship a of p at 120 takes 1 costs 1;");
        due.fine(x, "least", x.least(), 0);
        due.acts(x, new int[] {2, 119}, new int[] {0, 120, 0});
        HornBridge y = Due.at("cart c at 120 takes 1 costs 1;");
        due.acts(y, new int[] {1, 120, 0});
        HornBridge z = Due.at(PORT + "turns 7;ship a of p at 7 takes 1 costs 1;");
        due.fine(z, "OPEN in just its minute", z.least(), 0);
        HornBridge w = Due.at(PORT + "turns 8;ship a of p at 7 takes 1 costs 1;");
        due.fine(w, "OPEN a minute behind its own", w.least(), 1);
    }

    /** "and the bridge stays so till it has": the next begins in the minute in which it has passed, at the earliest. */
    private static void staysTillItHasPassed() {
        least("cart c at 0 takes 5 costs 1;cart d at 5 takes 1 costs 1;", 0);
        least("cart c at 0 takes 6 costs 1;cart d at 5 takes 1 costs 1;", 1);
        least(PORT + "turns 3;cart c at 0 takes 5 costs 9;ship a of p at 8 takes 1 costs 1;", 0);
        least(PORT + "turns 3;cart c at 0 takes 6 costs 9;ship a of p at 8 takes 1 costs 1;", 1);
        least(PORT + "turns 3;ship a of p at 3 takes 5 costs 9;cart c at 11 takes 1 costs 1;", 0);
        least(PORT + "turns 3;ship a of p at 3 takes 6 costs 9;cart c at 11 takes 1 costs 1;", 1);
    }

    /** "one behind the other as they come (of one minute by numbers)": nobody passes another of his kind. */
    private static void asTheyCome() {
        least("cart c at 5 takes 20 costs 0;cart d at 6 takes 1 costs 9;", 171);
        least("cart c at 6 takes 20 costs 0;cart d at 5 takes 1 costs 9;", 0);
        least("cart c at 5 takes 20 costs 0;cart d at 5 takes 1 costs 9;", 180);
        least("cart d at 5 takes 1 costs 9;cart c at 5 takes 20 costs 0;", 0);
        // Each keeps what it TAKES and COSTS, wherever it stands in the text.
        least("cart c at 6 takes 20 costs 0;cart d at 5 takes 1 costs 9;cart e at 7 takes 1 costs 1;", 19);
        least("cart c at 9 takes 3 costs 7;cart d at 6 takes 20 costs 0;cart e at 5 takes 1 costs 9;", 119);
        least(PORT + "ship a of p at 26 takes 1 costs 1;ship b of p at 6 takes 20 costs 0 sail;ship c of p at 5 takes 1 costs 9;", 0);
        hopeless(PORT + "ship a of p at 26 takes 1 costs 1;ship b of p at 6 takes 20 costs 0 sail;ship c of p at 5 takes 2 costs 9;");
        least(PORT + "ship a of p at 5 takes 20 costs 0;ship b of p at 6 takes 1 costs 9;", 171);
        least(PORT + "ship a of p at 5 takes 20 costs 0;ship b of p at 5 takes 1 costs 9;", 180);
        least(PORT + "ship b of p at 5 takes 1 costs 9;ship a of p at 5 takes 20 costs 0;", 0);
        HornBridge x = Due.at("cart c at 9 takes 1 costs 0;cart d at 9 takes 1 costs 0;cart e at 8 takes 1 costs 0;");
        due.acts(x, new int[] {1, 8, 2}, new int[] {1, 9, 0}, new int[] {1, 10, 1});
    }

    /** "the last one beginning in minute 240 or ahead". */
    private static void lastInMinute240() {
        least(SIX_SHIPS + "cart c at 99 takes 1 costs 0;", 420);
        hopeless(SIX_SHIPS + "cart c at 100 takes 1 costs 0;");
        String slow = PORT + "turns 20;frost 20 from 0;" + SIX_CARTS;
        least(slow + "ship a of p at 80 takes 20 costs 0 sail;", 420);
        hopeless(slow + "ship a of p at 81 takes 20 costs 0 sail;");
        HornBridge x = Due.at(slow + "ship a of p at 80 takes 20 costs 0 sail;");
        x.plan();
        due.fine(x, "the last act", x.planAt(8, 1), 240);
        due.none(x, "no more", x.planAt(9, 0), 6);
        HornBridge y = Due.at(slow + "ship a of p at 81 takes 20 costs 0 sail;");
        due.fine(y, "away", y.away(), 1);
        due.fine(y, "a CART less", y.without(5), 21 + 41 + 61 + 81 + 101);
        HornBridge z = Due.at(PORT + "turns 20;ship a of p at 0 takes 20 costs 0;");
        due.acts(z, new int[] {2, 220}, new int[] {0, 240, 0});
    }

    /** "A SAIL begins in its own minute"; "a SAIL can't wait". */
    private static void sailInItsOwnMinute() {
        least(PORT + "turns 3;ship a of p at 3 takes 1 costs 9 sail;", 0);
        hopeless(PORT + "turns 3;ship a of p at 2 takes 1 costs 0 sail;");
        least(PORT + "turns 3;ship a of p at 2 takes 1 costs 9;", 9);
        hopeless(PORT + "turns 1;ship a of p at 0 takes 1 costs 0 sail;");
        least(PORT + "turns 1;ship a of p at 1 takes 1 costs 0 sail;", 0);
        HornBridge x = Due.at(PORT + "turns 3;ship a of p at 90 takes 1 costs 0 sail;");
        due.acts(x, new int[] {2, 87}, new int[] {0, 90, 0});
    }

    private static void sailsAndOthers() {
        String sail = PORT + "ship a of p at 10 takes 1 costs 0 sail;";
        least(sail + "cart c at 4 takes 1 costs 1;", 0);
        least(sail + "cart c at 4 takes 2 costs 1;", 12);
        least(PORT + "ship a of p at 9 takes 1 costs 1;ship b of p at 10 takes 1 costs 0 sail;", 0);
        hopeless(PORT + "ship a of p at 9 takes 2 costs 1;ship b of p at 10 takes 1 costs 0 sail;");
        hopeless(PORT + "ship a of p at 10 takes 1 costs 1;ship b of p at 10 takes 1 costs 0 sail;");
        least(PORT + "ship b of p at 10 takes 1 costs 0 sail;ship a of p at 10 takes 1 costs 1;", 1);
        least(PORT + "ship a of p at 10 takes 1 costs 0 sail;ship b of p at 11 takes 1 costs 0 sail;", 0);
        hopeless(PORT + "ship a of p at 10 takes 2 costs 0 sail;ship b of p at 11 takes 1 costs 0 sail;");
    }

    /** "if it is begun in or behind a minute told by frost .. in so many more". */
    private static void frostInOrBehindAMinute() {
        String river = PORT + "turns 3;cart c at 9 takes 1 costs 9;ship a of p at 13 takes 1 costs 1;";
        least(river, 0);
        least(river + "frost 4 from 11;", 0);
        least(river + "frost 4 from 10;", 4);
        least(river + "frost 4 from 0;", 4);
        least(river + "frost 20 from 10;", 20);
        least(river + "frost 0 from 10;", 0);
        HornBridge x = Due.at(PORT + "turns 3;frost 4 from 10;ship a of p at 13 takes 1 costs 1;");
        due.acts(x, new int[] {2, 9}, new int[] {0, 13, 0});
        HornBridge y = Due.at(PORT + "turns 3;frost 4 from 10;ship a of p at 17 takes 1 costs 1;");
        due.acts(y, new int[] {2, 10}, new int[] {0, 17, 0});
        HornBridge z = Due.at(PORT + "turns 20;frost 20 from 200;ship a of p at 0 takes 1 costs 0;");
        due.acts(z, new int[] {2, 200}, new int[] {0, 240, 0});
        HornBridge w = Due.at(PORT + "turns 20;frost 20 from 200;ship a of p at 0 takes 1 costs 1;");
        due.acts(w, new int[] {2, 0}, new int[] {0, 20, 0});
    }

    /** "of each, minutes from its own to when it begins, times its COST; all together". */
    private static void waitsTimesCost() {
        least(PORT + "turns 20;frost 20 from 0;ship a of p at 0 takes 1 costs 99;", 3960);
        least(PORT + "turns 20;ship a of p at 0 takes 1 costs 0;", 0);
        // With the SHIP first the CART would wait a minute; the SHIP waits without COST.
        least(PORT + "turns 3;ship a of p at 3 takes 1 costs 0;cart c at 6 takes 1 costs 1;", 0);
        least("cart c at 0 takes 10 costs 3;cart d at 1 takes 10 costs 5;cart e at 2 takes 1 costs 7;", 45 + 126);
    }

    /** "what can be first .. : the next SHIP begins; the next CART begins; it rests a minute". */
    private static void beginsRatherThanRests() {
        HornBridge x = Due.at("cart c at 7 takes 1 costs 0;");
        due.acts(x, new int[] {1, 7, 0});
        HornBridge y = Due.at(PORT + "turns 2;ship a of p at 9 takes 3 costs 0 sail;ship b of p at 4 takes 2 costs 1;"
                + "ship c of p at 12 takes 1 costs 0;");
        due.acts(y, new int[] {2, 2}, new int[] {0, 4, 1}, new int[] {0, 9, 0}, new int[] {0, 12, 2});
        // Its own minute would keep a SAIL from passing, so that the CART rests, and waits without COST.
        HornBridge z = Due.at(PORT + "ship a of p at 10 takes 1 costs 0 sail;cart c at 0 takes 20 costs 0;");
        due.acts(z, new int[] {2, 5}, new int[] {0, 10, 0}, new int[] {2, 235}, new int[] {1, 240, 0});
        // Just not: it has passed, and the bridge has turned, when the SAIL comes.
        HornBridge w = Due.at(PORT + "ship a of p at 25 takes 1 costs 0 sail;cart c at 0 takes 20 costs 0;");
        due.acts(w, new int[] {1, 0, 0}, new int[] {2, 20}, new int[] {0, 25, 0});
    }

    /** "it rests a minute; it turns": it turns as late as it still comes to the LEAST. */
    private static void restsRatherThanTurns() {
        HornBridge x = Due.at(PORT + "ship a of p at 0 takes 1 costs 0;cart c at 0 takes 1 costs 0;");
        due.acts(x, new int[] {1, 0, 0}, new int[] {2, 235}, new int[] {0, 240, 0});
        HornBridge y = Due.at(PORT + "ship a of p at 30 takes 1 costs 1;cart c at 31 takes 1 costs 0;");
        due.acts(y, new int[] {2, 25}, new int[] {0, 30, 0}, new int[] {2, 235}, new int[] {1, 240, 0});
        HornBridge z = Due.at(PORT + "ship a of p at 0 takes 1 costs 1;");
        due.acts(z, new int[] {2, 0}, new int[] {0, 5, 0});
        // A minute for each step, from minute 0 to 240.
        HornBridge w = Due.at(PORT + "turns 1;ship a of p at 0 takes 1 costs 0;");
        due.acts(w, new int[] {2, 239}, new int[] {0, 240, 0});
        // What the SHIP waits is spent: the CART waits no minute more for it.
        HornBridge v = Due.at(PORT + "turns 1;ship a of p at 0 takes 1 costs 2;cart c at 7 takes 4 costs 2;");
        due.acts(v, new int[] {2, 0}, new int[] {0, 1, 0}, new int[] {2, 6}, new int[] {1, 7, 0});
    }

    /** "with which it still comes to the LEAST": the next could begin, but all WAITS would be more. */
    private static void beginningWouldCostMore() {
        // In minute 11 b costs 1, and the CART 12; behind the CART b costs 12.
        HornBridge x = Due.at(PORT + "ship a of p at 10 takes 1 costs 0 sail;ship b of p at 10 takes 12 costs 1;"
                + "cart c at 16 takes 1 costs 1;");
        due.fine(x, "least", x.least(), 12);
        due.acts(x, new int[] {2, 5}, new int[] {0, 10, 0}, new int[] {2, 11}, new int[] {1, 16, 0}, new int[] {2, 17},
                new int[] {0, 22, 1});
        // In minute 1 d costs 1, and the SHIP 12; behind the SHIP d costs 12.
        HornBridge y = Due.at(PORT + "cart c at 0 takes 1 costs 0;cart d at 0 takes 12 costs 1;ship a of p at 6 takes 1 costs 1;");
        due.fine(y, "least", y.least(), 12);
        due.acts(y, new int[] {1, 0, 0}, new int[] {2, 1}, new int[] {0, 6, 0}, new int[] {2, 7}, new int[] {1, 12, 1});
        // In minute 7 a costs 0, the CART 6 and c 8, or c 0 and the CART 12; behind the CART, which costs 2, c costs 8.
        HornBridge z = Due.at(PORT + "turns 1;ship a of p at 6 takes 2 costs 0;ship b of p at 1 takes 6 costs 0;"
                + "ship c of p at 9 takes 3 costs 2;cart d at 7 takes 2 costs 2;");
        due.fine(z, "least", z.least(), 10);
        due.acts(z, new int[] {2, 0}, new int[] {0, 1, 1}, new int[] {2, 7}, new int[] {1, 8, 0}, new int[] {2, 10},
                new int[] {0, 11, 0}, new int[] {0, 13, 2});
        // In minute 0 a CART costs 0, the SHIP 4 and c 3; behind the SHIP, which costs 1, d costs 0 and c 3.
        HornBridge w = Due.at(PORT + "turns 1;ship a of p at 0 takes 6 costs 1;cart c at 8 takes 5 costs 1;cart d at 0 takes 3 costs 0;");
        due.fine(w, "least", w.least(), 4);
        due.acts(w, new int[] {2, 0}, new int[] {0, 1, 0}, new int[] {2, 7}, new int[] {1, 8, 1}, new int[] {1, 11, 0});
        // In minute 4 b costs 0, and the CART 8; behind the CART b costs 4.
        HornBridge v = Due.at(PORT + "turns 1;ship a of p at 3 takes 1 costs 1;ship b of p at 4 takes 5 costs 1;cart c at 6 takes 1 costs 2;");
        due.fine(v, "least", v.least(), 4);
        due.acts(v, new int[] {2, 2}, new int[] {0, 3, 0}, new int[] {2, 5}, new int[] {1, 6, 0}, new int[] {2, 7}, new int[] {0, 8, 1});
        // In minute 2 the CART costs 0, and the SHIP 15; behind the SHIP it costs 3.
        HornBridge u = Due.at(PORT + "turns 1;ship a of p at 3 takes 1 costs 3;cart c at 2 takes 5 costs 1;");
        due.fine(u, "least", u.least(), 3);
        due.acts(u, new int[] {2, 2}, new int[] {0, 3, 0}, new int[] {2, 4}, new int[] {1, 5, 0});
    }

    /** The longest PLAN: a turn ahead of each of twelve. */
    private static void twentyFourActs() {
        StringBuilder text = new StringBuilder(PORT).append("turns 1;");
        int[][] acts = new int[24][];
        for (int i = 0; i < 6; i++) {
            int at = 1 + 4 * i;
            text.append("ship s").append((char) ('a' + i)).append(" of p at ").append(at).append(" takes 1 costs 1;");
            text.append("cart c").append((char) ('a' + i)).append(" at ").append(at + 2).append(" takes 1 costs 1;");
            acts[4 * i] = new int[] {2, at - 1};
            acts[4 * i + 1] = new int[] {0, at, i};
            acts[4 * i + 2] = new int[] {2, at + 1};
            acts[4 * i + 3] = new int[] {1, at + 2, i};
        }
        HornBridge x = Due.at(text.toString());
        due.fine(x, "least", x.least(), 0);
        due.acts(x, acts);
        due.fine(x, "opened", x.opened(), 6);
    }

    /** What is asked between leaves the LEAST as it is. */
    private static void leastStaysTheSame() {
        HornBridge x = Due.at(PORT + "turns 1;ship a of p at 6 takes 2 costs 0;ship b of p at 1 takes 6 costs 0;"
                + "ship c of p at 9 takes 3 costs 2;cart d at 7 takes 2 costs 2;");
        for (int i = 0; i < 3; i++) {
            due.fine(x, "least", x.least(), 10);
            due.fine(x, "plan", x.plan(), 7);
            due.fine(x, "least behind plan()", x.least(), 10);
            x.slack(2);
            due.fine(x, "least behind slack()", x.least(), 10);
            x.away();
            due.fine(x, "least behind away()", x.least(), 10);
            x.quicker(20);
            x.without(0);
            x.later(0, 60);
            x.worth(0);
        }
    }

    /** "(1: what; 6)"; "2: who (6: a turn)"; "by plan() latest with STATUS 0". */
    private static void planAtTells() {
        HornBridge x = Due.at(PORT + "ship a of p at 9 takes 1 costs 1;");
        due.none(x, "ahead of any plan()", x.planAt(0, 0), 6);
        due.fine(x, "plan", x.plan(), 2);
        for (int what : new int[] {Integer.MIN_VALUE, -1, 3, Integer.MAX_VALUE}) {
            due.none(x, "what " + what, x.planAt(0, what), 1);
            due.none(x, "what " + what + ", no such act", x.planAt(9, what), 1);
        }
        for (int k : new int[] {Integer.MIN_VALUE, -1, 2, 24, Integer.MAX_VALUE}) {
            for (int what = 0; what < 3; what++) {
                due.none(x, "act " + k, x.planAt(k, what), 6);
            }
        }
        due.none(x, "who turns", x.planAt(0, 2), 6);
        due.fine(x, "who passes", x.planAt(1, 2), 0);
        Due.river(x, PORT + "ship a of p at 0 takes 1 costs 1 sail;");
        due.none(x, "no PLAN", x.plan(), 6);
        due.fine(x, "the PLAN ahead", x.planAt(1, 1), 9);
        Due.river(x, "");
        due.fine(x, "an empty PLAN", x.plan(), 0);
        due.none(x, "no act", x.planAt(0, 0), 6);
    }

    /** "how much less the LEAST is without it"; "1; 6: all can't pass as it is". */
    private static void worth() {
        HornBridge x = Due.at(PORT + "turns 3;ship a of p at 3 takes 4 costs 9;ship b of p at 4 takes 1 costs 2;");
        due.fine(x, "least", x.least(), 6);
        due.fine(x, "keeps the other waiting", x.worth(0), 6);
        due.fine(x, "waits", x.worth(1), 6);
        HornBridge y = Due.at(PORT + "turns 3;ship a of p at 3 takes 4 costs 9;ship b of p at 7 takes 1 costs 2;");
        due.fine(y, "nothing", y.worth(0), 0);
        due.fine(y, "nothing", y.worth(1), 0);
        for (int ship : new int[] {Integer.MIN_VALUE, -1, 2, 6, Integer.MAX_VALUE}) {
            due.none(y, "worth", y.worth(ship), 1);
        }
        HornBridge some = Due.at(PORT + "turns 3;ship a of p at 0 takes 1 costs 2;ship b of p at 0 takes 1 costs 1;");
        due.fine(some, "6 and 4", some.least(), 10);
        due.fine(some, "without it 3", some.worth(0), 7);
        due.fine(some, "without it 6", some.worth(1), 4);
        HornBridge z = Due.at(PORT + "turns 3;ship a of p at 2 takes 4 costs 9 sail;ship b of p at 4 takes 1 costs 2;");
        due.none(z, "all can't pass, though they could without it", z.worth(0), 6);
        due.none(z, "all can't pass", z.worth(1), 6);
        due.none(z, "no such SHIP, and all can't pass", z.worth(2), 1);
    }

    /** "minutes 1 to 20 (1; 6)"; "(frost in so many more as told)". */
    private static void quicker1To20() {
        HornBridge x = Due.at(PORT + "turns 7;ship a of p at 0 takes 1 costs 1;");
        HornBridge frosty = Due.at(PORT + "turns 7;frost 20 from 0;ship a of p at 0 takes 1 costs 1;");
        HornBridge sail = Due.at(PORT + "turns 11;ship a of p at 10 takes 1 costs 1 sail;");
        for (int minutes = 1; minutes <= 20; minutes++) {
            due.fine(x, "quicker", x.quicker(minutes), minutes);
            due.fine(frosty, "quicker in frost", frosty.quicker(minutes), minutes + 20);
            if (minutes <= 10) {
                due.fine(sail, "a SAIL", sail.quicker(minutes), 0);
            } else {
                due.none(sail, "a SAIL", sail.quicker(minutes), 6);
            }
        }
        for (int minutes : new int[] {Integer.MIN_VALUE, -1, 0, 21, Integer.MAX_VALUE}) {
            due.none(x, "quicker", x.quicker(minutes), 1);
            due.none(sail, "quicker, and all can't pass", sail.quicker(minutes), 1);
        }
        due.fine(x, "it TURNS as told", x.told(4), 7);
        due.fine(x, "least", x.least(), 7);
        due.acts(x, new int[] {2, 0}, new int[] {0, 7, 0});
    }

    /** "the fewest SHIPS that are to be sent away so that all others can pass". */
    private static void awayTheFewest() {
        away(PORT + "ship a of p at 5 takes 1 costs 1 sail;", 0);
        away(PORT + "ship a of p at 4 takes 1 costs 1 sail;", 1);
        away(PORT + "ship a of p at 0 takes 1 costs 1;ship b of p at 4 takes 1 costs 1 sail;", 2);
        away(PORT + six("ship s^ of p at 0 takes 1 costs 1 sail;"), 63);
        away(PORT + "turns 1;" + six("ship s^ of p at 1 takes 1 costs 1 sail;"), 31);
        // The middle one alone rather than both beside it.
        away(PORT + "ship a of p at 10 takes 5 costs 0 sail;ship b of p at 12 takes 9 costs 0 sail;"
                + "ship c of p at 20 takes 1 costs 0 sail;", 2);
        away(SIX_SHIPS + "cart c at 99 takes 1 costs 0;", 0);
        away(SIX_SHIPS + "cart c at 100 takes 1 costs 0;", 1);
        away(PORT + "turns 20;frost 20 from 0;" + SIX_CARTS, 0);
    }

    /** "a set (1 for SHIP 0, 2 for 1 ..); of several the least". */
    private static void awayTheLeastOfSeveral() {
        String a = "ship a of p at 10 takes 1 costs 0 sail;";
        String b = "ship b of p at 10 takes 1 costs 0 sail;";
        String c = "ship c of p at 10 takes 1 costs 0 sail;";
        String away = "ship d of p at 0 takes 1 costs 0 sail;";
        away(PORT + a + b, 1);
        away(PORT + a + b + c, 3);
        away(PORT + away + a + b, 3);
        away(PORT + a + away + b, 3);
        away(PORT + a + b + away, 5);
    }

    private static void away(String river, int want) {
        HornBridge x = Due.at(river);
        due.fine(x, "away " + river, x.away(), want);
    }

    /** "so many minutes (0 to 60) later (1; 6)". */
    private static void later0To60() {
        HornBridge x = Due.at(PORT + "turns 20;ship a of p at 120 takes 1 costs 1;ship b of p at 0 takes 1 costs 1;");
        due.fine(x, "0", x.later(0, 0), x.least());
        due.fine(x, "60", x.later(0, 60), 20);
        due.fine(x, "19", x.later(1, 19), 1);
        due.fine(x, "20", x.later(1, 20), 0);
        for (int minutes : new int[] {Integer.MIN_VALUE, -1, 61, Integer.MAX_VALUE}) {
            due.none(x, "later by " + minutes, x.later(0, minutes), 1);
        }
        for (int ship : new int[] {Integer.MIN_VALUE, -1, 2, 6, Integer.MAX_VALUE}) {
            due.none(x, "later of " + ship, x.later(ship, 0), 1);
        }
        due.fine(x, "it comes as told", x.ship(0, 1), 120);
        HornBridge y = Due.at(PORT + "ship a of p at 4 takes 2 costs 1 sail;ship b of p at 9 takes 1 costs 1 sail;");
        due.none(y, "can't pass as it is", y.later(0, 0), 6);
        due.fine(y, "1", y.later(0, 1), 0);
        due.fine(y, "3", y.later(0, 3), 0);
        due.none(y, "4: it passes when the other comes", y.later(0, 4), 6);
        due.none(y, "5: it is ahead, by its number", y.later(0, 5), 6);
        due.fine(y, "6", y.later(0, 6), 0);
        due.none(y, "the other is ahead of it by none", y.later(1, 60), 6);
        // All of a late SHIP's minutes are its own: none is a wait.
        HornBridge z = Due.at(PORT + "turns 5;ship a of p at 0 takes 1 costs 7;");
        due.fine(z, "4", z.later(0, 4), 7);
        due.fine(z, "5", z.later(0, 5), 0);
    }

    /** "the most minutes (0 to 60) it may come later so that all can pass and the LEAST is no more than it is". */
    private static void slack0To60() {
        String first = PORT + "ship a of p at 10 takes 2 costs 1;ship b of p at ";
        slack(first + "71 takes 1 costs 0 sail;", 0, 59);
        slack(first + "72 takes 1 costs 0 sail;", 0, 60);
        slack(first + "13 takes 1 costs 0 sail;ship c of p at 13 takes 19 costs 0;"
                + "ship d of p at 33 takes 20 costs 0 sail;ship e of p at 53 takes 20 costs 0 sail;", 0, 1);
        slack(PORT + "ship a of p at 10 takes 2 costs 1;ship b of p at 12 takes 20 costs 0 sail;"
                + "ship c of p at 32 takes 20 costs 0 sail;ship d of p at 52 takes 20 costs 0 sail;", 0, 0);
        slack(PORT + "ship a of p at 120 takes 1 costs 1;", 0, 60);
        // The first waits 5 minutes, as it can't turn ahead of minute 0; by 60 the last would wait a minute, too.
        slack(PORT + "ship a of p at 0 takes 1 costs 1;ship b of p at 10 takes 2 costs 1;ship c of p at 71 takes 1 costs 1;", 1, 59);
        // It must turn in minute 0.
        slack(PORT + "ship a of p at 5 takes 1 costs 0 sail;ship b of p at 40 takes 1 costs 1;", 1, 60);
        HornBridge x = Due.at(first + "71 takes 1 costs 0 sail;");
        for (int ship : new int[] {Integer.MIN_VALUE, -1, 2, 6, Integer.MAX_VALUE}) {
            due.none(x, "slack of " + ship, x.slack(ship), 1);
        }
        HornBridge y = Due.at(PORT + "ship a of p at 4 takes 1 costs 1 sail;");
        due.none(y, "all can't pass as it is, though they could later", y.slack(0), 6);
        due.none(y, "no such SHIP, and all can't pass", y.slack(1), 1);
    }

    /** The LEAST may be more between, and no more again at the most minutes. */
    private static void slackLeapsOver() {
        HornBridge x = Due.at(PORT + "ship a of p at 40 takes 1 costs 0 sail;ship b of p at 10 takes 2 costs 1;");
        due.none(x, "29: it passes when the other comes", x.later(1, 29), 6);
        due.fine(x, "60", x.later(1, 60), 0);
        due.fine(x, "slack", x.slack(1), 60);
        // The LEAST is 5 as it is: as much as that is no more.
        HornBridge y = Due.at(PORT + "turns 5;ship a of p at 0 takes 1 costs 1;cart c at 60 takes 1 costs 1;cart d at 61 takes 9 costs 0;");
        due.fine(y, "least", y.least(), 5);
        int slack = -1;
        for (int minutes = 0; minutes <= 60; minutes++) {
            slack = y.later(0, minutes) <= 5 ? minutes : slack;
        }
        due.fine(y, "slack", y.slack(0), slack);
    }

    private static void slack(String river, int ship, int want) {
        HornBridge x = Due.at(river);
        due.fine(x, "slack " + river, x.slack(ship), want);
        int least = x.least();
        due.is("no more than it is", x.later(ship, want) <= least && x.status() == 0, true);
        for (int minutes = want + 1; minutes <= 60; minutes++) {
            due.is("more, or can't pass", x.later(ship, minutes) > least || x.status() == 6, true);
        }
    }

    /** "LEAST without a CART (1; 6)". */
    private static void without() {
        HornBridge x = Due.at("cart c at 0 takes 5 costs 1;cart d at 1 takes 1 costs 2;");
        due.fine(x, "least", x.least(), 8);
        due.fine(x, "without the first", x.without(0), 0);
        due.fine(x, "without the last", x.without(1), 0);
        for (int cart : new int[] {Integer.MIN_VALUE, -1, 2, 6, Integer.MAX_VALUE}) {
            due.none(x, "without " + cart, x.without(cart), 1);
        }
        due.fine(x, "they are as told", x.told(2), 2);
        HornBridge y = Due.at(SIX_SHIPS + "cart c at 100 takes 1 costs 0;");
        due.none(y, "can't pass as it is", y.least(), 6);
        due.fine(y, "all can without it", y.without(0), 20 * 15);
        HornBridge z = Due.at(SIX_SHIPS + "cart c at 100 takes 1 costs 0;cart d at 100 takes 1 costs 0;");
        due.none(z, "not all can without it", z.without(0), 6);
        due.none(z, "no such CART", z.without(2), 1);
    }

    /** "a SHIP, or a CART (its number and 6); of several the first SHIP, then the first CART". */
    private static void dearestOfSeveral() {
        dearest(PORT + "turns 5;ship a of p at 0 takes 1 costs 1;", 0);
        dearest("cart c at 0 takes 1 costs 1;cart d at 0 takes 1 costs 1;", 7);
        dearest(PORT + "ship a of p at 10 takes 1 costs 0 sail;cart c at 4 takes 2 costs 1;", 6);
        dearest(six("cart c^ at 0 takes 1 costs 0;").replace("cart cf at 0 takes 1 costs 0", "cart cf at 0 takes 1 costs 1"), 11);
        // 5 of the SHIP that comes first, 5 of the other: the first by its number.
        dearest(PORT + "ship a of p at 1 takes 1 costs 1;ship b of p at 0 takes 1 costs 1;", 0);
        dearest(PORT + "ship a of p at 1 takes 1 costs 1;ship b of p at 0 takes 1 costs 2;", 1);
        dearest(PORT + "ship a of p at 2 takes 1 costs 1;ship b of p at 0 takes 1 costs 1;", 1);
        // Minutes times COST, not minutes.
        dearest("cart c at 0 takes 9 costs 0;cart d at 1 takes 1 costs 1;cart e at 8 takes 1 costs 5;", 8);
        dearest("cart c at 0 takes 9 costs 0;cart d at 1 takes 1 costs 1;cart e at 8 takes 1 costs 4;", 7);
    }

    /** "of several the first SHIP, then the first CART". */
    private static void dearestOfBoth() {
        // The CARTS pass first: the second waits 4 minutes; then it turns, and the SHIP waits 4 minutes.
        String river = PORT + "turns 2;cart c at 0 takes 4 costs 9;cart d at 0 takes 1 costs 9;ship a of p at 3 takes 1 costs ^;";
        HornBridge less = Due.at(river.replace("^", "8"));
        due.acts(less, new int[] {1, 0, 0}, new int[] {1, 4, 1}, new int[] {2, 5}, new int[] {0, 7, 0});
        due.fine(less, "32 of the SHIP, 36 of the CART", less.dearest(), 7);
        HornBridge same = Due.at(river.replace("^", "9"));
        due.fine(same, "36 of both: the SHIP", same.dearest(), 0);
        HornBridge more = Due.at(river.replace("^", "10"));
        due.fine(more, "40 of the SHIP", more.dearest(), 0);
    }

    private static void dearest(String river, int want) {
        HornBridge x = Due.at(river);
        due.fine(x, "dearest " + river, x.dearest(), want);
    }

    /** "6: nobody's minutes times COST are above 0, or all can't pass". */
    private static void nobodyIsDearest() {
        HornBridge x = Due.at(PORT + "ship a of p at 6 takes 1 costs 99;cart c at 0 takes 1 costs 99;");
        due.none(x, "none waits", x.dearest(), 6);
        HornBridge y = Due.at(PORT + "ship a of p at 0 takes 1 costs 0;cart c at 0 takes 1 costs 0;");
        due.none(y, "none costs", y.dearest(), 6);
        HornBridge z = Due.at(PORT + "ship a of p at 4 takes 1 costs 1;");
        due.fine(z, "1 is above 0", z.dearest(), 0);
    }

    /** "from the end of a turn to the next turn's beginning, at last to when all have passed". */
    private static void opened() {
        opened("cart c at 3 takes 9 costs 1;", 0);
        opened(PORT + "ship a of p at 30 takes 1 costs 1;", 1);
        opened(PORT + "ship a of p at 30 takes 20 costs 1;", 20);
        opened(PORT + "ship a of p at 30 takes 2 costs 1;ship b of p at 40 takes 3 costs 1;", 13);
        opened(PORT + "turns 3;ship a of p at 10 takes 4 costs 1 sail;cart c at 10 takes 1 costs 1;", 4);
        opened(PORT + "turns 3;ship a of p at 10 takes 4 costs 1 sail;cart c at 14 takes 1 costs 9;"
                + "ship b of p at 30 takes 2 costs 1 sail;", 6);
        opened(PORT + "turns 3;ship a of p at 10 takes 4 costs 1 sail;cart c at 30 takes 1 costs 0;", 237 - 10);
    }

    private static void opened(String river, int want) {
        HornBridge x = Due.at(river);
        due.fine(x, "opened " + river, x.opened(), want);
    }

    /** "the first minute (0 to 240) in which the most wait who have come and begin later". */
    private static void busiestFirst() {
        busiest(PORT + "turns 1;ship a of p at 0 takes 1 costs 1;", 0);
        busiest(PORT + "turns 20;ship a of p at 0 takes 1 costs 1;", 0);
        busiest("cart c at 0 takes 5 costs 0;cart d at 3 takes 1 costs 0;", 3);
        busiest("cart c at 0 takes 5 costs 0;cart d at 3 takes 1 costs 0;cart e at 4 takes 1 costs 0;", 4);
        // The second begins in the minute in which the third comes.
        busiest("cart c at 0 takes 5 costs 0;cart d at 3 takes 9 costs 0;cart e at 5 takes 1 costs 0;", 3);
        busiest("cart c at 119 takes 5 costs 0;cart d at 120 takes 9 costs 0;", 120);
        busiest(PORT + "ship a of p at 120 takes 1 costs 0;", 120);
        busiest(PORT + "turns 3;cart c at 0 takes 5 costs 9;cart d at 1 takes 1 costs 9;ship a of p at 4 takes 1 costs 1;", 4);
    }

    private static void busiest(String river, int want) {
        HornBridge x = Due.at(river);
        due.fine(x, "busiest " + river, x.busiest(), want);
    }

    /** "6: nobody waits, or all can't pass". */
    private static void nobodyWaits() {
        HornBridge x = Due.at("cart c at 0 takes 5 costs 1;cart d at 5 takes 1 costs 1;");
        due.none(x, "each begins in its own minute", x.busiest(), 6);
        HornBridge y = Due.at("cart c at 0 takes 6 costs 0;cart d at 5 takes 1 costs 0;");
        due.fine(y, "a minute without COST is a wait", y.busiest(), 5);
    }

    /** "6" of each that needs all to pass. */
    private static void cannotPass() {
        HornBridge x = Due.at(PORT + "ship a of p at 4 takes 1 costs 1 sail;cart c at 0 takes 1 costs 1;");
        due.none(x, "least", x.least(), 6);
        due.none(x, "plan", x.plan(), 6);
        due.none(x, "worth", x.worth(0), 6);
        due.none(x, "slack", x.slack(0), 6);
        due.none(x, "quicker", x.quicker(5), 6);
        due.none(x, "without", x.without(0), 6);
        due.none(x, "dearest", x.dearest(), 6);
        due.none(x, "opened", x.opened(), 6);
        due.none(x, "busiest", x.busiest(), 6);
        due.fine(x, "away", x.away(), 1);
    }
}
