/** The edges of promises 9 to 17, sentence by sentence: the tape, a RIVER's text and its FAULTS, what is told of it. */
public final class EdgeTextsTest {
    private static final Due due = new Due();
    private static final String PORT = "port p calls l;";
    private static final String[] KEYWORDS = {"port", "calls", "turns", "frost", "from", "echo", "ship", "of", "at",
        "takes", "costs", "sail", "cart", "if", "do", "open", "shut", "rest", "or", "and", "not", "waiting", "ships",
        "carts", "next", "minute", "turned"};
    private static final int BLANKS = 0x20202020;

    public static void main(String[] args) {
        feedTakesTheHighestByteFirst();
        tapeOf900Bytes();
        riverTakesTheFirstBytes();
        tokensEndWithTheText();
        tapeIsEmptyThen();
        riverOf900Bytes();
        emptyRiver();
        eachByteAlone();
        eachByteInside();
        blanksBetween();
        numbersOf1To4Digits();
        signsThatCannotStand();
        namesOf1To8Letters();
        keywordsAreNoNames();
        nearKeywordsAreNames();
        blastsOf1To6Letters();
        oneNameIsOfOneThing();
        eachOfEighteenNames();
        portsToldAhead();
        sameBlasts();
        numbersThatCanBe();
        sailOrNot();
        toldAlready();
        sixOfEach();
        theEnd();
        firstAlongTheText();
        leastKindOfOneToken();
        withoutAnyPart();
        riverInPlaceOfThatAhead();
        oldRiverStays();
        faultTells();
        toldTells();
        shipsAndCartsTell();
        theyComeInOrder();
        due.end("EdgeTextsTest");
    }

    // ---- the tape

    private static void feedTakesTheHighestByteFirst() {
        // "echo 1;turns 2;     " by hand, the highest byte of each int first.
        HornBridge x = new HornBridge();
        due.is("feed", x.feed(0x6563686f, 0x20313b74, 0x75726e73, 0x20323b20, BLANKS), 20);
        due.fine(x, "river", x.river(20), 0);
        due.fine(x, "ECHO", x.told(7), 1);
        due.fine(x, "TURNS", x.told(4), 2);
        for (int place = 0; place < 20; place++) {
            int[] row = {BLANKS, BLANKS, BLANKS, BLANKS, BLANKS};
            row[place / 4] |= 0xff << 24 - 8 * (place % 4);
            due.is("feed", x.feed(row[0], row[1], row[2], row[3], row[4]), 20);
            due.none(x, "river", x.river(20), 9);
            due.is("the byte 255 stands at " + place, x.fault(1), place);
            due.is("no TOKEN begins so", x.fault(0), 1);
        }
    }

    /** "NONE if there would be more than 900". */
    private static void tapeOf900Bytes() {
        HornBridge x = new HornBridge();
        for (int i = 1; i <= 44; i++) {
            due.is("feed", x.feed(BLANKS, BLANKS, BLANKS, BLANKS, BLANKS), 20 * i);
        }
        due.is("feed to 900", x.feed(BLANKS, 0x6563686f, 0x20353b20, BLANKS, BLANKS), 900);
        due.is("feed above 900", x.feed(0x23232323, 0x23232323, 0x23232323, 0x23232323, 0x23232323), -1);
        due.is("feed above 900 again", x.feed(0, 0, 0, 0, 0), -1);
        due.none(x, "river(901)", x.river(901), 1);
        due.fine(x, "all that was there, and no more", x.river(900), 0);
        due.fine(x, "ECHO", x.told(7), 5);
        due.is("feed anew", x.feed(BLANKS, BLANKS, BLANKS, BLANKS, BLANKS), 20);
    }

    /** "The first n bytes of the tape"; "1: n below 0, or more than the tape has, too". */
    private static void riverTakesTheFirstBytes() {
        String text = "echo 1;turns 2;     ";
        for (int n : new int[] {Integer.MIN_VALUE, -1, 21, 900, Integer.MAX_VALUE}) {
            HornBridge x = new HornBridge();
            Due.feed(x, text);
            due.none(x, "river " + n, x.river(n), 1);
            due.none(x, "rules " + n, x.rules(n), 1);
            due.is("no FAULT told", x.fault(0), -1);
            due.fine(x, "the tape is as it was", x.river(20), 0);
            due.fine(x, "ECHO", x.told(7), 1);
        }
        int[][] echoAndTurns = {{0, 0, 5}, {7, 1, 5}, {15, 1, 2}, {20, 1, 2}};
        for (int[] want : echoAndTurns) {
            HornBridge x = new HornBridge();
            Due.feed(x, text);
            due.fine(x, "river " + want[0], x.river(want[0]), 0);
            due.fine(x, "ECHO", x.told(7), want[1]);
            due.fine(x, "TURNS", x.told(4), want[2]);
        }
        HornBridge x = new HornBridge();
        due.none(x, "of an empty tape", x.river(1), 1);
        due.fine(x, "nothing of an empty tape", x.river(0), 0);
    }

    /** What lies on the tape behind the n bytes is no part of a TOKEN. */
    private static void tokensEndWithTheText() {
        cut("turnsx 5;", 5, 2, 5);
        cut("turns 20;", 7, 2, 7);
        cut("turns 12345;", 10, 4, 6);
        cut("turns 12345;", 11, 1, 6);
        cut("port p calls llllllllls;", 19, 2, 19);
        cut("port p calls llllllllls;", 20, 2, 13);
        cut("port pppppppppppp calls l;", 13, 2, 13);
        cut("port pppppppppppp calls l;", 14, 2, 5);
        cut("cart a atx", 9, 2, 9);
        cut("echo 5;#", 7, 0, -1);
        cut("echo 5;   ;", 10, 0, -1);
        cut("echo 5;\n\n\n#", 9, 0, -1);
    }

    private static void cut(String text, int n, int kind, int place) {
        HornBridge x = new HornBridge();
        Due.feed(x, text);
        due.is("the first " + n + " bytes of " + text, x.river(n), kind == 0 ? 0 : -1);
        due.is("FAULT", x.fault(0), kind);
        due.is("its place", x.fault(1), place);
    }

    /** "the tape (which is empty then)", of a taken text and of one with a FAULT. */
    private static void tapeIsEmptyThen() {
        HornBridge x = new HornBridge();
        Due.feed(x, "echo 1;turns 2;");
        due.fine(x, "river(7)", x.river(7), 0);
        due.none(x, "nothing is left", x.river(1), 1);
        Due.feed(x, "echo 1;turns 2;");
        due.none(x, "river(5)", x.river(5), 9);
        due.none(x, "nothing is left", x.river(1), 1);
        Due.feed(x, "if open do shut;");
        due.fine(x, "rules(16)", x.rules(16), 1);
        due.none(x, "nothing is left", x.rules(1), 1);
        Due.feed(x, "if open do shut;");
        due.none(x, "rules(2)", x.rules(2), 9);
        due.none(x, "nothing is left", x.rules(1), 1);
        due.is("feed begins anew", x.feed(0, 0, 0, 0, 0), 20);
        due.fine(x, "river(0)", x.river(0), 0);
        due.is("empty behind nothing, too", x.feed(0, 0, 0, 0, 0), 20);
    }

    /** "A RIVER is a TEXT of at most 900 bytes": the last one counts. */
    private static void riverOf900Bytes() {
        HornBridge x = new HornBridge();
        Due.feed(x, " ".repeat(893) + "echo 4;");
        due.fine(x, "river(900)", x.river(900), 0);
        due.fine(x, "ECHO", x.told(7), 4);
        Due.feed(x, " ".repeat(893) + "echo 6;");
        due.none(x, "river(899)", x.river(899), 9);
        due.is("its ; is not there", x.fault(1), 899);
        Due.feed(x, " ".repeat(894) + "echo 7");
        due.none(x, "river(900) without its ;", x.river(900), 9);
        due.is("the end", x.fault(1), 900);
        Due.feed(x, " ".repeat(899) + "#");
        due.none(x, "river(900) with a wrong last byte", x.river(900), 9);
        due.is("the last byte", x.fault(1), 899);
        due.fine(x, "the ECHO of that ahead", x.told(7), 4);
    }

    private static void emptyRiver() {
        for (String text : new String[] {"", " ", "\n", "  \n \n"}) {
            HornBridge x = due.riverTaken(text, 0);
            due.fine(x, "PORTS", x.told(0), 0);
            due.fine(x, "TURNS", x.told(4), 5);
        }
    }

    // ---- TOKENS

    private static boolean isBlank(int b) {
        return b == 10 || b == 32;
    }

    private static boolean beginsToken(int b) {
        return b >= 'a' && b <= 'z' || b >= '0' && b <= '9' || ";<>=()".indexOf(b) >= 0;
    }

    /** "blanks (10, 32)", "WORDS (small letters)", "SIGNS ; < > = ( )", "1 no TOKEN begins so": of each byte. */
    private static void eachByteAlone() {
        for (int b = 0; b < 256; b++) {
            String text = "" + (char) b;
            if (isBlank(b)) {
                due.riverTaken(text, 0);
                due.rulesTaken(text, 0);
            } else {
                int kind = beginsToken(b) ? 2 : 1;
                due.riverFault(text, kind, 0);
                due.riverFault(" \n" + text, kind, 2);
                due.riverFault("turns 5;" + text, kind, 8);
                due.rulesFault(text, kind, 0);
                due.rulesFault("if open do shut;" + text, kind, 16);
            }
        }
    }

    /** Each byte between a WORD and a NUMBER: where the TOKENS end. */
    private static void eachByteInside() {
        for (int b = 0; b < 256; b++) {
            String text = "turns" + (char) b + "5;";
            boolean digit = b >= '0' && b <= '9';
            if (isBlank(b) || b == '0' || b == '1') {
                HornBridge x = due.riverTaken(text, 0);
                due.fine(x, "TURNS of " + text, x.told(4), b == '1' ? 15 : 5);
            } else if (b >= 'a' && b <= 'z') {
                due.riverFault(text, 2, 0);
            } else {
                due.riverFault(text, digit ? 4 : beginsToken(b) ? 2 : 1, 5);
            }
        }
    }

    private static void blanksBetween() {
        HornBridge x = due.riverTaken("\n turns \n 7 \n;\n\n echo  3;", 0);
        due.fine(x, "TURNS", x.told(4), 7);
        due.fine(x, "ECHO", x.told(7), 3);
        HornBridge y = due.riverTaken("turns7;echo3;port p calls l;ship a of p at1takes2costs3sail;", 1);
        due.fine(y, "TURNS", y.told(4), 7);
        due.fine(y, "a SAIL", y.ship(0, 4), 1);
        due.riverFaultAt(2, "^tu rns 7;");
        due.riverFaultAt(2, "turns 1 ^7;");
        due.riverFaultAt(1, "turns^\t7;");
        due.riverFaultAt(1, "turns^\r7;");
        due.riverFaultAt(1, "turns 7;^" + (char) 0);
        due.riverFaultAt(1, "turns 7;^" + (char) 160);
    }

    /** "NUMBERS (1 to 4 digits)"; "a NUMBER of 5 digits and more: at its first". */
    private static void numbersOf1To4Digits() {
        for (String number : new String[] {"7", "07", "007", "0007"}) {
            HornBridge x = due.riverTaken("turns " + number + ";", 0);
            due.fine(x, number, x.told(4), 7);
        }
        due.riverFaultAt(1, "turns ^00007;");
        due.riverFaultAt(1, "turns ^10007;");
        due.riverFaultAt(1, "turns ^000000000000000000000000000007;");
        // 2 times 65,536 times 65,536 and 7.
        due.riverFaultAt(1, "turns ^8589934599;");
        due.riverFaultAt(1, "turns ^4294967303;");
        due.riverFaultAt(4, "turns ^1000;");
        due.riverFaultAt(4, "turns ^9999;");
        due.riverFaultAt(1, "turns ^99999;");
        due.riverFaultAt(2, "^9999");
        due.riverFaultAt(1, "^99999");
        due.riverFaultAt(2, "turns 5 ^9999;");
        due.riverFaultAt(1, "turns 5 ^99999;");
        due.rulesFaultAt(4, "if ships < ^0301 do rest;");
        due.rulesFaultAt(1, "if ships < ^00300 do rest;");
    }

    /** A SIGN is a TOKEN, so that it is 2 wherever it can't stand. */
    private static void signsThatCannotStand() {
        for (char sign : new char[] {'<', '>', '=', '(', ')'}) {
            due.riverFaultAt(2, "^" + sign);
            due.riverFaultAt(2, "turns ^" + sign + " 5;");
            due.riverFaultAt(2, "turns 5 ^" + sign);
        }
        due.riverFaultAt(2, "^;");
        due.riverFaultAt(2, "turns ^;");
        due.riverFaultAt(2, "turns 5;^;");
        due.riverFaultAt(2, "port ^; calls l;");
    }

    /** "NAME: a WORD of 1 to 8 letters"; "a WORD of 9 letters and more where a NAME must stand". */
    private static void namesOf1To8Letters() {
        for (int letters = 1; letters <= 8; letters++) {
            String port = "p".repeat(letters);
            String ship = "s".repeat(letters);
            String cart = "c".repeat(letters);
            due.riverTaken("port " + port + " calls l;ship " + ship + " of " + port + " at 1 takes 1 costs 1;cart " + cart
                    + " at 1 takes 1 costs 1;", 1);
        }
        for (int letters : new int[] {9, 10, 12, 13, 14, 26, 40}) {
            String name = "p".repeat(letters);
            due.riverFaultAt(2, "port ^" + name + " calls l;");
            due.riverFaultAt(2, PORT + "ship ^" + name + " of p at 1 takes 1 costs 1;");
            due.riverFaultAt(2, PORT + "ship a of ^" + name + " at 1 takes 1 costs 1;");
            due.riverFaultAt(2, "cart ^" + name + " at 1 takes 1 costs 1;");
            due.riverFaultAt(2, "^" + name);
        }
        due.riverFaultAt(2, "port ^5 calls l;");
        due.riverFaultAt(2, "cart ^5 at 1;");
        due.riverFaultAt(2, PORT + "ship ^5 of p;");
        due.riverFaultAt(2, PORT + "ship a of ^5;");
    }

    /** "that is none of port, calls, .. turned". */
    private static void keywordsAreNoNames() {
        due.is("so many", KEYWORDS.length, 27);
        for (String word : KEYWORDS) {
            due.riverFaultAt(2, "port ^" + word + " calls l;");
            due.riverFaultAt(2, PORT + "ship ^" + word + " of p at 1 takes 1 costs 1;");
            due.riverFaultAt(2, PORT + "ship a of ^" + word + " at 1 takes 1 costs 1;");
            due.riverFaultAt(2, "cart ^" + word + " at 1 takes 1 costs 1;");
        }
    }

    private static void nearKeywordsAreNames() {
        for (String word : KEYWORDS) {
            String shorter = word.substring(0, word.length() - 1);
            for (String name : new String[] {word + "x", "x" + word, shorter}) {
                if (!java.util.Arrays.asList(KEYWORDS).contains(name)) {
                    due.riverTaken("port " + name + " calls l;ship b of " + name + " at 1 takes 1 costs 1;", 1);
                }
            }
        }
        // The letters of WORDS that can't be told apart by less than eight.
        due.riverTaken("port aaaaaaaa calls l;port aaaaaaab calls s;port baaaaaaa calls ll;port aaaaaaa calls ss;", 0);
    }

    /** "BLASTS: a WORD of 1 to 6 letters, l (long) and s (short) alone"; "what is no BLASTS where these must". */
    private static void blastsOf1To6Letters() {
        for (int letters = 1; letters <= 6; letters++) {
            due.riverTaken("port p calls " + "l".repeat(letters) + ";port q calls " + "s".repeat(letters) + ";", 0);
        }
        for (int letters : new int[] {7, 8, 9, 13, 30}) {
            due.riverFaultAt(2, "port p calls ^" + "l".repeat(letters) + ";");
            due.riverFaultAt(2, "port p calls ^" + "s".repeat(letters) + ";");
        }
        for (char c = 'a'; c <= 'z'; c++) {
            for (String blasts : new String[] {"" + c, c + "ls", "l" + c + "s", "lslsl" + c}) {
                if (c == 'l' || c == 's') {
                    due.riverTaken("port p calls " + blasts + ";", 0);
                } else {
                    due.riverFaultAt(2, "port p calls ^" + blasts + ";");
                }
            }
        }
        due.riverFaultAt(2, "port p calls ^;");
        due.riverFaultAt(2, "port p calls ^5;");
        due.riverFaultAt(1, "port p calls ^12345;");
        due.riverFaultAt(1, "port p calls ^L;");
        due.riverFaultAt(2, "port p calls l ^s;");
        due.riverTaken("port ls calls ls;ship l of ls at 1 takes 1 costs 1;", 1);
    }

    /** "One NAME is of one thing alone"; "3 a new NAME that is taken". */
    private static void oneNameIsOfOneThing() {
        String[] first = {"port a calls s;", PORT + "ship a of p at 1 takes 1 costs 1;", "cart a at 1 takes 1 costs 1;"};
        String[] second = {"port ^a calls ll;", "port q calls ls;ship ^a of q at 1 takes 1 costs 1;",
            "cart ^a at 1 takes 1 costs 1;"};
        for (String one : first) {
            for (String other : second) {
                due.riverFaultAt(3, one + other);
                due.riverFaultAt(3, one + "cart b at 1 takes 1 costs 1;" + other);
                int ships = (one.contains("ship") ? 1 : 0) + (other.contains("ship") ? 1 : 0);
                due.riverTaken(one + other.replace("^a", "aa"), ships);
            }
        }
    }

    /** The last of eighteen has none of the names ahead. */
    private static void eachOfEighteenNames() {
        StringBuilder text = new StringBuilder();
        for (char c = 'a'; c < 'g'; c++) {
            text.append("port p").append(c).append(" calls ").append("s".repeat(c - 'a' + 1)).append(';');
            text.append("ship s").append(c).append(" of pa at 1 takes 1 costs 1;");
            if (c < 'f') {
                text.append("cart c").append(c).append(" at 1 takes 1 costs 1;");
            }
        }
        due.riverTaken(text + "cart cf at 1 takes 1 costs 1;", 6);
        for (String kind : new String[] {"p", "s", "c"}) {
            for (char c = 'a'; c < (kind.equals("c") ? 'f' : 'g'); c++) {
                due.riverFaultAt(3, text + "cart ^" + kind + c + " at 1 takes 1 costs 1;");
            }
        }
        String last = "cart cf at 1 takes 1 costs 1;";
        for (char c = 'a'; c < 'f'; c++) {
            String other = "cart c" + c + " at 1 takes 1 costs 1;";
            due.riverFaultAt(3, text.toString().replace(other, "") + other + last.replace("cf", "^c" + c));
        }
    }

    /** "a PORT must be told ahead of its SHIPS"; "a NAME that is no PORT told ahead". */
    private static void portsToldAhead() {
        due.riverFaultAt(3, "ship a of ^p at 1 takes 1 costs 1;" + PORT);
        due.riverFaultAt(3, PORT + "ship a of ^q at 1 takes 1 costs 1;");
        due.riverFaultAt(3, PORT + "ship a of ^a at 1 takes 1 costs 1;");
        due.riverFaultAt(3, PORT + "ship a of p at 1 takes 1 costs 1;ship b of ^a at 1 takes 1 costs 1;");
        due.riverFaultAt(3, PORT + "cart c at 1 takes 1 costs 1;ship b of ^c at 1 takes 1 costs 1;");
        due.riverTaken(PORT + "ship a of p at 1 takes 1 costs 1;", 1);
        due.riverTaken(PORT + "cart c at 1 takes 1 costs 1;turns 5;ship a of p at 1 takes 1 costs 1;", 1);
        StringBuilder ports = new StringBuilder();
        StringBuilder ships = new StringBuilder();
        for (int i = 0; i < 6; i++) {
            ports.append("port p").append((char) ('a' + i)).append(" calls ").append("l".repeat(i + 1)).append(';');
            ships.append("ship s").append((char) ('a' + i)).append(" of p").append((char) ('f' - i))
                    .append(" at 1 takes 1 costs 1;");
        }
        HornBridge x = due.riverTaken(ports.toString() + ships, 6);
        for (int i = 0; i < 6; i++) {
            due.fine(x, "each of its own PORT", x.ship(i, 0), 5 - i);
        }
    }

    /** "no two with the same BLASTS"; "5 BLASTS that another PORT has (at them)". */
    private static void sameBlasts() {
        due.riverFaultAt(5, PORT + "port q calls ^l;");
        due.riverFaultAt(5, "port p calls lslsls;port q calls ^lslsls;");
        due.riverFaultAt(5, "port a calls s;port b calls ss;port c calls sss;port d calls ^ss;");
        String five = "port a calls l;port b calls s;port c calls ll;port d calls ls;port e calls sl;";
        due.riverFaultAt(5, five + "port f calls ^l;");
        due.riverFaultAt(5, five + "port f calls ^sl;");
        due.riverTaken(five + "port f calls ss;", 0);
        due.riverTaken("port a calls l;port b calls ll;port c calls lll;port d calls llll;port e calls lllll;"
                + "port f calls llllll;", 0);
    }

    // ---- NUMBERS that can be

    private static void range(String ahead, String behind, int lowest, int highest) {
        for (int number = 0; number <= highest + 2; number++) {
            if (number < lowest || number > highest) {
                due.riverFaultAt(4, ahead + "^" + number + behind);
            } else {
                due.riverTaken(ahead + number + behind, ahead.contains("ship") ? 1 : 0);
            }
        }
        due.riverFaultAt(4, ahead + "^9999" + behind);
        due.riverFaultAt(1, ahead + "^10000" + behind);
        due.riverFaultAt(2, ahead + "^x" + behind);
        due.riverFaultAt(2, ahead + "^" + behind.stripLeading());
    }

    /** "4 a NUMBER that can't be": of each NUMBER the lowest and the highest that can, and those beside them. */
    private static void numbersThatCanBe() {
        range("turns ", ";", 1, 20);
        range("frost ", " from 7;", 0, 20);
        range("frost 7 from ", ";", 0, 200);
        range("echo ", ";", 0, 9);
        range(PORT + "ship a of p at ", " takes 1 costs 1;", 0, 120);
        range(PORT + "ship a of p at 1 takes ", " costs 1;", 1, 20);
        range(PORT + "ship a of p at 1 takes 1 costs ", ";", 0, 99);
        range(PORT + "ship a of p at 1 takes 1 costs ", " sail;", 0, 99);
        range("cart a at ", " takes 1 costs 1;", 0, 120);
        range("cart a at 1 takes ", " costs 1;", 1, 20);
        range("cart a at 1 takes 1 costs ", ";", 0, 99);
    }

    private static void sailOrNot() {
        HornBridge x = Due.at(PORT + "ship a of p at 1 takes 1 costs 1 sail;ship b of p at 1 takes 1 costs 1;"
                + "ship c of p at 1 takes 1 costs 1 sail;");
        due.fine(x, "a SAIL", x.ship(0, 4), 1);
        due.fine(x, "no SAIL", x.ship(1, 4), 0);
        due.fine(x, "a SAIL", x.ship(2, 4), 1);
        due.riverFaultAt(2, PORT + "ship a of p at 1 takes 1 costs 1 sail ^sail;");
        due.riverFaultAt(2, PORT + "ship a of p at 1 takes 1 costs 1 ^sails;");
        due.riverFaultAt(2, "cart a at 1 takes 1 costs 1 ^sail;");
        due.riverFaultAt(2, "turns 5 ^sail;");
    }

    /** "turns, frost, echo told already (at that WORD)": as they were told, or as they are without. */
    private static void toldAlready() {
        String[] once = {"turns 5;", "turns 20;", "frost 0 from 0;", "frost 1 from 2;", "echo 0;", "echo 9;"};
        for (String one : once) {
            for (String other : once) {
                String word = other.substring(0, other.indexOf(' '));
                if (one.startsWith(word)) {
                    due.riverFaultAt(5, one + "^" + other);
                    due.riverFaultAt(5, one + "cart a at 1 takes 1 costs 1;^" + word);
                } else {
                    due.riverTaken(one + other, 0);
                }
            }
        }
        due.riverTaken("echo 1;frost 1 from 1;turns 1;", 0);
    }

    /** "PORTS, at most 6", "SHIPS, at most 6", "CARTS, at most 6"; "6 one more .. than there may be (at that WORD)". */
    private static void sixOfEach() {
        StringBuilder ports = new StringBuilder(PORT);
        StringBuilder ships = new StringBuilder(PORT);
        StringBuilder carts = new StringBuilder();
        for (int i = 0; i < 6; i++) {
            ships.append("ship s").append((char) ('a' + i)).append(" of p at 1 takes 1 costs 1;");
            carts.append("cart c").append((char) ('a' + i)).append(" at 1 takes 1 costs 1;");
            if (i > 0) {
                ports.append("port p").append((char) ('a' + i)).append(" calls ").append("s".repeat(i)).append(';');
            }
            HornBridge x = due.riverTaken(ports.toString() + ships.toString().substring(PORT.length()) + carts, i + 1);
            due.fine(x, "PORTS", x.told(0), i + 1);
            due.fine(x, "SHIPS", x.told(1), i + 1);
            due.fine(x, "CARTS", x.told(2), i + 1);
        }
        due.riverFaultAt(6, ports + "^port q calls ssssss;");
        due.riverFaultAt(6, ships + "^ship x of p at 1 takes 1 costs 1;");
        due.riverFaultAt(6, carts + "^cart x at 1 takes 1 costs 1;");
        due.riverFaultAt(6, ports + "echo 1;^port");
        due.riverFaultAt(6, ships + "echo 1;^ship");
        due.riverFaultAt(6, carts + "echo 1; \n^cart");
    }

    /** "2 it can't stand there (the end: the text's length)". */
    private static void theEnd() {
        String all = "port p calls l;frost 1 from 2;ship a of p at 1 takes 1 costs 1 sail;cart b at 1 takes 1 costs 1;";
        String[] tokens = {"port", " p", " calls", " l", ";", "frost", " 1", " from", " 2", ";", "ship", " a", " of", " p",
            " at", " 1", " takes", " 1", " costs", " 1", " sail", ";", "cart", " b", " at", " 1", " takes", " 1", " costs",
            " 1", ";"};
        StringBuilder text = new StringBuilder();
        for (String token : tokens) {
            if (!token.equals(";") && !token.equals(" sail")) {
                due.riverFaultAt(2, text + "^;");
                due.riverFaultAt(2, text + " ^;" + PORT);
            }
            text.append(token);
            if (token.equals(";")) {
                due.riverTaken(text.toString(), text.toString().contains("ship") ? 1 : 0);
            } else {
                due.riverFaultAt(2, text + "^");
                due.riverFaultAt(2, text + " \n ^");
            }
        }
        due.is("all of it", text.toString().equals(all), true);
    }

    /** "FAULTS, the first along the text". */
    private static void firstAlongTheText() {
        due.riverFaultAt(4, "turns ^21;turns 5;#");
        due.riverFaultAt(5, "turns 5;^turns 21;#");
        due.riverFaultAt(1, "turns 5;^#turns 21;");
        due.riverFaultAt(3, PORT + "port ^p calls l;echo 10;");
        due.riverFaultAt(5, PORT + "port q calls ^l;echo 10;");
        due.riverFaultAt(3, PORT + "ship ^p of q at 121");
        due.riverFaultAt(3, PORT + "ship a of ^q at 121");
        due.riverFaultAt(4, PORT + "ship a of p at ^121 takes 0 costs 100");
        due.riverFaultAt(4, PORT + "ship a of p at 120 takes ^0 costs 100");
        due.riverFaultAt(4, PORT + "ship a of p at 120 takes 1 costs ^100 x");
        due.riverFaultAt(2, PORT + "ship a of p at 120 takes 1 costs 99 ^x");
    }

    /** "of one TOKEN the least kind". */
    private static void leastKindOfOneToken() {
        StringBuilder ports = new StringBuilder();
        StringBuilder carts = new StringBuilder();
        for (int i = 0; i < 6; i++) {
            ports.append("port p").append((char) ('a' + i)).append(" calls ").append("s".repeat(i + 1)).append(';');
            carts.append("cart c").append((char) ('a' + i)).append(" at 1 takes 1 costs 1;");
        }
        // One more, but where it can't stand at all.
        due.riverFaultAt(2, ports + "turns ^port");
        due.riverFaultAt(2, carts + "turns 5 ^cart");
        due.riverFaultAt(6, carts + "turns 5;^cart");
        // Told already, but where it can't stand.
        due.riverFaultAt(2, "turns 5;echo ^turns");
        due.riverFaultAt(2, "echo 5 ^echo 5;");
        // No NAME rather than a taken one; no BLASTS rather than another's.
        due.riverFaultAt(2, PORT + "port ^port calls l;");
        due.riverFaultAt(2, PORT + "port q calls ^p;");
        // No TOKEN rather than a NUMBER that can't be.
        due.riverFaultAt(1, "turns ^99999;");
        due.riverFaultAt(1, PORT + "port ^12345 calls l;");
    }

    // ---- RIVERS

    /** "5 without"; "0: none, as without"; "from when (6; 0 without)". */
    private static void withoutAnyPart() {
        HornBridge x = due.riverTaken(PORT, 0);
        int[] told = {1, 0, 0, 0, 5, 0, 0, 0};
        for (int what = 0; what < 8; what++) {
            due.fine(x, "told(" + what + ")", x.told(what), told[what]);
        }
        due.fine(x, "no ECHO", x.heard(0), x.sound(0));
        HornBridge y = due.riverTaken(PORT + "echo 0;frost 0 from 200;", 0);
        due.fine(y, "an ECHO of 0 is none", y.heard(0), y.sound(0));
        due.fine(y, "FROST from", y.told(6), 200);
    }

    /** "A RIVER that is taken is there in place of that ahead; there are no RULES". */
    private static void riverInPlaceOfThatAhead() {
        HornBridge x = Due.at(PORT + "turns 9;frost 3 from 4;echo 5;ship a of p at 1 takes 1 costs 1 sail;"
                + "ship b of p at 2 takes 2 costs 2;cart c at 3 takes 3 costs 3;", "if open do shut;");
        due.fine(x, "a RULE", x.told(3), 1);
        due.fine(x, "another RIVER", Due.river(x, "port q calls s;ship d of q at 7 takes 8 costs 9;"), 1);
        int[] told = {1, 1, 0, 0, 5, 0, 0, 0};
        for (int what = 0; what < 8; what++) {
            due.fine(x, "told(" + what + ")", x.told(what), told[what]);
        }
        int[] ship = {0, 7, 8, 9, 0};
        for (int what = 0; what < 5; what++) {
            due.fine(x, "ship(0, " + what + ")", x.ship(0, what), ship[what]);
        }
        due.none(x, "ship(1, 0)", x.ship(1, 0), 1);
        due.none(x, "cart(0, 0)", x.cart(0, 0), 1);
        due.fine(x, "its call", x.sound(0), 1);
        due.none(x, "sound(1)", x.sound(1), 1);
        due.none(x, "keep", x.keep(-1), 6);
        due.fine(x, "the same NAMES again", Due.river(x, "port q calls s;ship d of q at 7 takes 8 costs 9;"), 1);
        due.fine(x, "an empty RIVER", Due.river(x, ""), 0);
        due.none(x, "sound(0)", x.sound(0), 1);
        due.none(x, "ship(0, 0)", x.ship(0, 0), 1);
    }

    /** "9: the old one stays", and its RULES. */
    private static void oldRiverStays() {
        HornBridge x = Due.at("turns 9;cart c at 3 takes 3 costs 3;", "if open do shut;");
        for (String faulty : new String[] {"turns 8;echo 3;echo", "#", "port q calls s;turns 2;cart d at 1 takes 1 costs 1"}) {
            due.none(x, "river " + faulty, Due.river(x, faulty), 9);
            due.none(x, "rules " + faulty, Due.rules(x, faulty), 9);
            int[] told = {0, 0, 1, 1, 9, 0, 0, 0};
            for (int what = 0; what < 8; what++) {
                due.fine(x, "told(" + what + ")", x.told(what), told[what]);
            }
            due.fine(x, "cart(0, 0)", x.cart(0, 0), 3);
            due.fine(x, "keep", x.keep(-1), 0);
        }
    }

    /** "Of the latest river() or rules() with STATUS 0 or 9"; "NONE for others, and ahead of any". */
    private static void faultTells() {
        HornBridge x = new HornBridge();
        faults(x, -1, -1);
        x.river(1);
        x.rules(-1);
        faults(x, -1, -1);
        due.none(x, "a FAULT at 0", Due.river(x, "#"), 9);
        faults(x, 1, 0);
        x.river(-1);
        x.rules(301);
        faults(x, 1, 0);
        due.fine(x, "rules(0)", x.rules(0), 0);
        faults(x, 0, -1);
        due.none(x, "a FAULT of RULES", Due.rules(x, "if ships<301"), 9);
        faults(x, 4, 9);
        due.fine(x, "river(0)", x.river(0), 0);
        faults(x, 0, -1);
    }

    private static void faults(HornBridge x, int kind, int place) {
        int status = x.status();
        due.is("fault(0)", x.fault(0), kind);
        due.is("fault(1)", x.fault(1), place);
        for (int what : new int[] {Integer.MIN_VALUE, -1, 2, 3, Integer.MAX_VALUE}) {
            due.is("fault(" + what + ")", x.fault(what), -1);
        }
        due.is("fault() has no STATUS", x.status(), status);
    }

    private static void toldTells() {
        HornBridge x = new HornBridge();
        for (int what : new int[] {Integer.MIN_VALUE, -1, 8, 9, Integer.MAX_VALUE}) {
            due.none(x, "told(" + what + ")", x.told(what), 1);
        }
        for (int what = 0; what < 8; what++) {
            due.fine(x, "told(" + what + ")", x.told(what), what == 4 ? 5 : 0);
        }
    }

    private static void shipsAndCartsTell() {
        StringBuilder text = new StringBuilder(PORT);
        for (int many = 0; many <= 6; many++) {
            HornBridge x = Due.at(text.toString());
            for (int who : new int[] {Integer.MIN_VALUE, -1, many, many + 1, 6, Integer.MAX_VALUE}) {
                for (int what = 0; what < 5; what++) {
                    due.none(x, "no such SHIP", x.ship(who, what), 1);
                    due.none(x, "no such CART", x.cart(who, what), 1);
                }
                due.none(x, "no such SHIP", x.nextShip(who), 6);
                due.none(x, "no such CART", x.nextCart(who), 6);
            }
            for (int what : new int[] {Integer.MIN_VALUE, -1, 5, Integer.MAX_VALUE}) {
                due.none(x, "ship", x.ship(many - 1, what), 1);
                due.none(x, "cart", x.cart(many - 1, what), 1);
            }
            due.none(x, "cart(.., 3)", x.cart(many - 1, 3), 1);
            for (int who = 0; who < many; who++) {
                due.fine(x, "its COSTS", x.ship(who, 3), 20 + who);
                due.fine(x, "its COSTS", x.cart(who, 2), 30 + who);
            }
            text.append("ship s").append((char) ('a' + many)).append(" of p at 1 takes 1 costs ").append(20 + many)
                    .append(";cart c").append((char) ('a' + many)).append(" at 1 takes 1 costs ").append(30 + many).append(';');
        }
    }

    /** "SHIPS pass one behind the other as they come (of one minute by numbers), CARTS likewise". */
    private static void theyComeInOrder() {
        order(new int[] {5, 5, 5, 5, 5, 5}, 0, 1, 2, 3, 4, 5);
        order(new int[] {120, 100, 80, 60, 1, 0}, 5, 4, 3, 2, 1, 0);
        order(new int[] {7, 6, 7, 6, 7, 6}, 1, 3, 5, 0, 2, 4);
        order(new int[] {0, 0, 120, 119, 0, 120}, 0, 1, 4, 3, 2, 5);
        order(new int[] {3}, 0);
        order(new int[] {3, 4}, 0, 1);
        order(new int[] {4, 3}, 1, 0);
    }

    private static void order(int[] at, int... want) {
        StringBuilder text = new StringBuilder(PORT);
        for (int i = 0; i < at.length; i++) {
            text.append("ship s").append((char) ('a' + i)).append(" of p at ").append(at[i]).append(" takes 1 costs 1;");
            text.append("cart c").append((char) ('a' + i)).append(" at ").append(at[i]).append(" takes 1 costs 1;");
        }
        HornBridge x = Due.at(text.toString());
        for (int k = 0; k < want.length; k++) {
            due.fine(x, "nextShip(" + k + ")", x.nextShip(k), want[k]);
            due.fine(x, "nextCart(" + k + ")", x.nextCart(k), want[k]);
        }
        due.none(x, "no more SHIPS", x.nextShip(want.length), 6);
        due.none(x, "no more CARTS", x.nextCart(want.length), 6);
    }
}
