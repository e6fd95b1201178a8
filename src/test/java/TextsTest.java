/** Promises 9 to 17. */
public final class TextsTest {
    private static final Due due = new Due();
    private static final String PORT = "port p calls l;";

    public static void main(String[] args) {
        tape();
        taken();
        coming();
        cutTexts();
        riverFaults();
        riverNames();
        riverLimits();
        rules();
        rulesFaults();
        faultTells();
        due.end("TextsTest");
    }

    private static void tape() {
        HornBridge x = new HornBridge();
        due.is("feed", x.feed(0x65636820, 0x6f20373b, 0, 0, 0), 20);
        due.none(x, "river(-1)", x.river(-1), 1);
        due.none(x, "river(21)", x.river(21), 1);
        due.none(x, "rules(-1)", x.rules(-1), 1);
        due.none(x, "rules(21)", x.rules(21), 1);
        due.is("feed: the tape is as it was", x.feed(0, 0, 0, 0, 0), 40);
        due.none(x, "river(8)", x.river(8), 9);
        due.is("feed: 9 has emptied the tape", x.feed(0x6563686f, 0x20373b20, 0, 0, 0), 20);
        due.fine(x, "river(8)", x.river(8), 0);
        due.fine(x, "told(7)", x.told(7), 7);
        due.none(x, "river(1) of an empty tape", x.river(1), 1);
        due.fine(x, "river(0)", x.river(0), 0);
        due.fine(x, "told(7)", x.told(7), 0);
        for (int i = 1; i <= 45; i++) {
            due.is("feed", x.feed(0x20202020, 0x0a0a0a0a, 0x20202020, 0x20202020, 0x20202020), 20 * i);
        }
        due.is("feed the 901st", x.feed(0, 0, 0, 0, 0), -1);
        due.none(x, "rules(301)", x.rules(301), 1);
        due.none(x, "river(901)", x.river(901), 1);
        due.fine(x, "river(900) of blanks", x.river(900), 0);
        for (int i = 1; i <= 45; i++) {
            x.feed(0x20202020, 0x20202020, 0x20202020, 0x20202020, 0x20202020);
        }
        due.fine(x, "rules(300) of blanks", x.rules(300), 0);
        due.is("feed: the tape is empty", x.feed(0, 0, 0, 0, 0), 20);
    }

    private static void taken() {
        HornBridge x = Due.at("port a calls l;port b calls s;\nturns 20;frost 20 from 200;echo 9;"
                + "ship c of b at 120 takes 20 costs 99 sail;ship d of a at 0 takes 1 costs 0;"
                + "cart e at 7 takes 8 costs 9;");
        int[] told = {2, 2, 1, 0, 20, 20, 200, 9};
        for (int what = 0; what < told.length; what++) {
            due.fine(x, "told(" + what + ")", x.told(what), told[what]);
        }
        due.none(x, "told(-1)", x.told(-1), 1);
        due.none(x, "told(8)", x.told(8), 1);
        int[][] ships = {{1, 120, 20, 99, 1}, {0, 0, 1, 0, 0}};
        for (int ship = 0; ship < 2; ship++) {
            for (int what = 0; what < 5; what++) {
                due.fine(x, "ship", x.ship(ship, what), ships[ship][what]);
            }
            due.none(x, "ship", x.ship(ship, 5), 1);
            due.none(x, "ship", x.ship(ship, -1), 1);
        }
        due.none(x, "ship(2, 0)", x.ship(2, 0), 1);
        due.none(x, "ship(-1, 0)", x.ship(-1, 0), 1);
        int[] cart = {7, 8, 9};
        for (int what = 0; what < 3; what++) {
            due.fine(x, "cart", x.cart(0, what), cart[what]);
        }
        due.none(x, "cart(0, 3)", x.cart(0, 3), 1);
        due.none(x, "cart(0, -1)", x.cart(0, -1), 1);
        due.none(x, "cart(1, 0)", x.cart(1, 0), 1);
        due.none(x, "cart(-1, 0)", x.cart(-1, 0), 1);
        due.none(x, "a faulty river", Due.river(x, "turns 5"), 9);
        due.fine(x, "the old one stays", x.told(4), 20);
        due.fine(x, "a river in place of that", Due.river(x, "turns 7;"), 0);
        due.fine(x, "nothing of the old one", x.told(0) + x.told(1) + x.told(2) + x.told(5) + x.told(7), 0);
        due.fine(x, "told(4)", x.told(4), 7);
    }

    private static void coming() {
        HornBridge x = Due.at(PORT + "ship a of p at 9 takes 1 costs 0;ship b of p at 3 takes 1 costs 0;"
                + "ship c of p at 9 takes 1 costs 0;ship d of p at 0 takes 1 costs 0;"
                + "cart e at 5 takes 1 costs 1;cart f at 5 takes 1 costs 1;cart g at 4 takes 1 costs 1;");
        int[] ships = {3, 1, 0, 2};
        for (int k = 0; k < ships.length; k++) {
            due.fine(x, "nextShip(" + k + ")", x.nextShip(k), ships[k]);
        }
        due.none(x, "nextShip(4)", x.nextShip(4), 6);
        due.none(x, "nextShip(-1)", x.nextShip(-1), 6);
        int[] carts = {2, 0, 1};
        for (int k = 0; k < carts.length; k++) {
            due.fine(x, "nextCart(" + k + ")", x.nextCart(k), carts[k]);
        }
        due.none(x, "nextCart(3)", x.nextCart(3), 6);
        due.none(x, "nextCart(-1)", x.nextCart(-1), 6);
    }

    /** What lies on the tape behind the n bytes is no part of the text. */
    private static void cutTexts() {
        HornBridge x = new HornBridge();
        Due.feed(x, "port zzz calls l;ship yz of zzz at 10 takes 19 costs 90;");
        due.fine(x, "all of it", x.river(56), 1);
        due.fine(x, "a 0", x.ship(0, 1), 10);
        due.fine(x, "a 9", x.ship(0, 2), 19);
        int[][] cuts = {{52, 2, 52}, {54, 2, 54}, {55, 2, 55}, {50, 2, 47}, {3, 2, 0}, {5, 2, 5}, {7, 2, 7}};
        for (int[] cut : cuts) {
            Due.feed(x, "port zzz calls l;ship yz of zzz at 10 takes 19 costs 90;");
            due.none(x, "cut at " + cut[0], x.river(cut[0]), 9);
            due.is("FAULT of it, cut at " + cut[0], x.fault(0), cut[1]);
            due.is("place of it, cut at " + cut[0], x.fault(1), cut[2]);
        }
        Due.feed(x, "turns 20;     x");
        due.fine(x, "cut in blanks", x.river(11), 0);
        Due.feed(x, "turns 20000;");
        due.none(x, "cut in a NUMBER", x.river(8), 9);
        due.is("its place", x.fault(1), 8);
        due.is("it is no NUMBER of 5 digits", x.fault(0), 2);
        Due.feed(x, "if open do open;if shut do shut;");
        due.fine(x, "the first RULE alone", x.rules(16), 1);
    }

    private static void riverFaults() {
        due.riverFault("Turns 3;", 1, 0);
        due.riverFault("turns 3,", 1, 7);
        due.riverFault("turns\t3;", 1, 5);
        due.riverFault("turns " + (char) 200 + ";", 1, 6);
        due.riverFault("turns 00003;", 1, 6);
        due.riverFault("12345", 1, 0);
        due.riverFault("1234", 2, 0);
        due.riverFault("turns", 2, 5);
        due.riverFault("turns  \n", 2, 8);
        due.riverFault("turns 3", 2, 7);
        due.riverFault("turns ;", 2, 6);
        due.riverFault("turns x;", 2, 6);
        due.riverFault("turns (3);", 2, 6);
        due.riverFault(";", 2, 0);
        due.riverFault("foo 3;", 2, 0);
        due.riverFault("turnss 3;", 2, 0);
        due.riverFault("turns 3 ;;", 2, 9);
        due.riverFault("turns 0;", 4, 6);
        due.riverFault("turns 9999;", 4, 6);
        due.riverFault("turns 21;", 4, 6);
        due.riverFault("echo 10;", 4, 5);
        due.riverFault("frost 3 of 4;", 2, 8);
        due.riverFault("frost 3;", 2, 7);
        due.riverFault("frost 3 from;", 2, 12);
        due.riverFault("frost 21 from 4;", 4, 6);
        due.riverFault("frost 20 from 201;", 4, 14);
        due.riverFault("frost 3 from 4;frost", 5, 15);
        due.riverFault("echo 0;echo", 5, 7);
        due.riverFault("turns 5;turns 5;", 5, 8);
        due.riverFault("port p l;", 2, 7);
        due.riverFault("port p calls ;", 2, 13);
        due.riverFault("port p calls lsls1;", 2, 17);
        due.riverFault("port p calls lsa;", 2, 13);
        due.riverFault(PORT + "port q calls l ;", 5, 28);
        due.riverFault(PORT + "ship a of q ", 3, 25);
        due.riverFault(PORT + "ship a of a ", 3, 25);
        due.riverFault(PORT + "ship a of at ", 2, 25);
        due.riverFault(PORT + "ship a of ninelette ", 2, 25);
        due.riverFault(PORT + "ship a of 12 ", 2, 25);
        due.riverFault("ship a of p at 1 takes 1 costs 1;" + PORT, 3, 10);
        due.riverFault(PORT + "cart c at 1 takes 1 costs 1;ship s of c", 3, 53);
        due.riverFault(PORT + "ship a of p at 1 takes 1 costs 1 sail sail;", 2, 53);
        due.riverFault("cart a at 1 takes 1 costs 100;", 4, 26);
        due.riverFault("cart a at 121 takes 1 costs 1;", 4, 10);
        due.riverFault("cart a at 1 takes 0 costs 1;", 4, 18);
        due.riverFault("cart a at 1 takes 21 costs 1;", 4, 18);
        due.riverFault("cart a;", 2, 6);
        due.riverFault("cart a at;", 2, 9);
        due.riverFault("cart a at 1;", 2, 11);
        due.riverFault("cart a at 1 takes 1;", 2, 19);
        due.riverFault("cart a at 1 takes 1 costs;", 2, 25);
        due.riverFault("cart;", 2, 4);
        due.riverFault("port;", 2, 4);
        due.riverFault("port p;", 2, 6);
        due.riverFault(PORT + "ship;", 2, 19);
        due.riverFault(PORT + "ship a;", 2, 21);
        due.riverFault(PORT + "ship a of;", 2, 24);
        due.riverFault(PORT + "ship a of p;", 2, 26);
        due.riverFault(PORT + "ship a of p at 121 takes", 4, 30);
        due.riverFault(PORT + "ship a of p at 120 takes 21", 4, 40);
        due.riverFault(PORT + "ship a of p at 120 takes 20 costs 100", 4, 49);
        due.riverFault("cart a at 1 costs", 2, 12);
        due.riverFault("cart a at 1 takes 1 takes", 2, 20);
        due.riverFault("cart a of", 2, 7);
    }

    private static void riverNames() {
        String[] kept = {"port", "calls", "turns", "frost", "from", "echo", "ship", "of", "at", "takes", "costs", "sail",
            "cart", "if", "do", "open", "shut", "rest", "or", "and", "not", "waiting", "ships", "carts", "next", "minute",
            "turned"};
        for (String word : kept) {
            due.riverFault("port " + word + " calls l;", 2, 5);
            due.riverFault("cart " + word + " at 1", 2, 5);
        }
        due.riverFault("port ninelette calls l;", 2, 5);
        due.riverFault(PORT + "port p calls s;", 3, 20);
        due.riverFault(PORT + "ship p of p", 3, 20);
        due.riverFault(PORT + "cart p at", 3, 20);
        due.riverFault("cart a at 1 takes 1 costs 1;cart a", 3, 33);
        HornBridge x = new HornBridge();
        due.fine(x, "names", Due.river(x, "port eightlet calls l;port ls calls ls;ship s of eightlet at1takes2costs3;"
                + "ship ss of ls at 0001 takes 02 costs 3sail;cart waitings at 1 takes 1 costs 1;"), 2);
        due.fine(x, "ship(0, 2)", x.ship(0, 2), 2);
        due.fine(x, "ship(1, 4)", x.ship(1, 4), 1);
        due.fine(x, "an l in another row", Due.river(x, "port eightleu calls l;port eightlet calls ll;"), 0);
    }

    private static void riverLimits() {
        StringBuilder ports = new StringBuilder();
        StringBuilder ships = new StringBuilder();
        StringBuilder carts = new StringBuilder();
        String[] blasts = {"l", "s", "ll", "ls", "sl", "ss"};
        for (int i = 0; i < 6; i++) {
            ports.append("port p").append((char) ('a' + i)).append(" calls ").append(blasts[i]).append(';');
            ships.append("ship s").append((char) ('a' + i)).append(" of pa at 1 takes 1 costs 1;");
            carts.append("cart c").append((char) ('a' + i)).append(" at 1 takes 1 costs 1;");
        }
        String all = ports.toString() + ships + carts;
        HornBridge x = Due.at(all);
        due.fine(x, "six", x.told(0) + x.told(1) + x.told(2), 18);
        due.riverFault(all + "port x calls lll;", 6, all.length());
        due.riverFault(all + "ship x of pa", 6, all.length());
        due.riverFault(all + "cart", 6, all.length());
        due.riverFault(all + "\n x", 2, all.length() + 2);
    }

    private static void rules() {
        HornBridge x = new HornBridge();
        due.fine(x, "rules", Due.rules(x, "if open do rest;if not ( ships<0 or carts > 300 ) and shut do open ;"
                + "if next=1 and minute=2 or turned=3 do shut;"), 3);
        due.fine(x, "told(3)", x.told(3), 3);
        due.none(x, "a faulty text", Due.rules(x, "if"), 9);
        due.fine(x, "the old ones stay", x.told(3), 3);
        due.fine(x, "empty", Due.rules(x, ""), 0);
        due.fine(x, "told(3)", x.told(3), 0);
        due.fine(x, "twelve", Due.rules(x, "if open do rest;".repeat(12)), 12);
        due.fine(x, "24 cases", Due.rules(x, "if open and shut do rest;".repeat(12)), 12);
        due.fine(x, "five deep", Due.rules(x, "if not not not not not open do shut;if (((((ships=1))))) do open;"), 2);
        due.fine(x, "a new river", Due.river(x, ""), 0);
        due.fine(x, "there are no RULES", x.told(3), 0);
        due.none(x, "keep(0)", x.keep(0), 6);
    }

    private static void rulesFaults() {
        due.rulesFault("if open do shut; If", 1, 17);
        due.rulesFault("if ships = 12345", 1, 11);
        due.rulesFault("open", 2, 0);
        due.rulesFault("if", 2, 2);
        due.rulesFault("if do", 2, 3);
        due.rulesFault("if waiting", 2, 3);
        due.rulesFault("if open and do", 2, 12);
        due.rulesFault("if open open", 2, 8);
        due.rulesFault("if open do turn", 2, 11);
        due.rulesFault("if open do shut", 2, 15);
        due.rulesFault("if (open do", 2, 9);
        due.rulesFault("if open) do", 2, 7);
        due.rulesFault("if () do", 2, 4);
        due.rulesFault("if ships 3", 2, 9);
        due.rulesFault("if ships = = 3", 2, 11);
        due.rulesFault("if ships = do", 2, 11);
        due.rulesFault("if ships = 301 do", 4, 11);
        due.rulesFault("if shut = 1 do", 2, 8);
        due.rulesFault("if open do open;".repeat(12) + "if", 6, 192);
        due.rulesFault("if open do open;".repeat(12) + "of", 2, 192);
        due.rulesFault(("if " + "open or ".repeat(11) + "open do open;").repeat(2) + "if shut", 6, 211);
        due.rulesFault("if " + "open or ".repeat(24) + "turned", 6, 195);
        due.rulesFault("if " + "open or ".repeat(24) + "not shut", 6, 199);
        due.rulesFault("if " + "open or ".repeat(24) + "do", 2, 195);
        due.rulesFault("if not not not not not not open do", 7, 27);
        due.rulesFault("if not ( not ( not ( ( ", 7, 21);
        due.rulesFault("if not ( not ( not ( not ", 7, 21);
        due.rulesFault("if not ( not ( not ( do", 2, 21);
        due.rulesFault("if not ( not ( not ( # ", 1, 21);
        due.rulesFault("if ((((((open", 7, 9);
        due.rulesFault("if " + "open or ".repeat(24) + "((((((next", 6, 201);
        due.rulesFault("if " + "open or ".repeat(24) + "(((((((next", 7, 201);
    }

    private static void faultTells() {
        HornBridge x = new HornBridge();
        due.none(x, "river", Due.river(x, "echo 11;"), 9);
        due.is("fault(0)", x.fault(0), 4);
        due.is("fault(1)", x.fault(1), 5);
        due.is("fault(2)", x.fault(2), -1);
        due.is("fault(-1)", x.fault(-1), -1);
        due.none(x, "STATUS 1 leaves it", x.river(-1), 1);
        due.is("fault(0)", x.fault(0), 4);
        due.none(x, "STATUS 1 leaves it", x.rules(-1), 1);
        due.is("fault(1)", x.fault(1), 5);
        due.fine(x, "rules", Due.rules(x, "if shut do open;"), 1);
        due.is("fault(0)", x.fault(0), 0);
        due.is("fault(1)", x.fault(1), -1);
        due.none(x, "rules", Due.rules(x, "if shut do;"), 9);
        due.is("fault(0)", x.fault(0), 2);
        due.is("fault(1)", x.fault(1), 10);
        due.fine(x, "river", Due.river(x, ""), 0);
        due.is("fault(0)", x.fault(0), 0);
    }
}
