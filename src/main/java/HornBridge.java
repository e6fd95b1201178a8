/** A swing bridge that a blind man turns by what he hears. */
public final class HornBridge {
    public static final int NONE = -1;

    private static final int FINE = 0;
    private static final int IMPOSSIBLE_NUMBER = 1;
    private static final int MISSING_TRAY = 2;
    private static final int NO_SUCH_PLACE = 3;
    private static final int TOO_MANY = 4;
    private static final int NONE_SUCH = 6;
    private static final int UNLIKE_SORTS = 8;
    private static final int FAULTY = 9;

    private static final int LONGEST_RIVER = 900;
    private static final int LONGEST_RULES = 300;
    private static final int BYTES_A_FEED = 20;
    private static final int MOST_BEATS = 12;
    private static final int MOST_ECHO = 9;
    private static final int MOST_CODE_CALLS = 4;
    private static final int MOST_CODE_BLASTS = 4;
    private static final int MOST_LATER = 60;
    private static final int MOST_TURNS = 20;
    private static final int LAST_SEED = 9999;
    private static final int MOST_SEEDS = 20;
    private static final int MOST_MARKS = 3;
    private static final int MOST_READINGS = 474;
    private static final int ALONE = 6;
    private static final int LONG_BITS = 64;

    private int status = FINE;
    private long top = 0;
    private long bottom = 1;
    private final Tray[] trays = new Tray[4];
    private final byte[] tape = new byte[LONGEST_RIVER];
    private int fed = 0;
    private River river = new River();
    // null as long as no RULES were read for this RIVER.
    private Rules rules = null;
    private int faultKind = NONE;
    private int faultPlace = NONE;
    private final River[] markedRivers = new River[MOST_MARKS];
    private final Rules[] markedRules = new Rules[MOST_MARKS];
    private int marks = 0;
    // Three numbers of each READING: the first PORT, the second (ALONE without), the BEATS.
    private final int[] readingsTold = new int[3 * MOST_READINGS];
    private int manyReadings = 0;
    private final CodeSearch codeSearch = new CodeSearch();
    private final Crossing crossing = new Crossing();
    private final Keeper keeper = new Keeper();

    public HornBridge() {
        for (int i = 0; i < trays.length; i++) {
            trays[i] = new Tray();
        }
    }

    public int status() {
        return status;
    }

    public long top() {
        return top;
    }

    public long bottom() {
        return bottom;
    }

    // ---- TRAYS

    public boolean tray(int tray, int sort, int many) {
        if (!isTray(tray) || sort < 0 || sort > Tray.LAST_SORT || many < 0 || many > Tray.LONGEST) {
            return deny(IMPOSSIBLE_NUMBER);
        }
        trays[tray].lay(sort, many);
        return grant();
    }

    public boolean write(int tray, int place, long v) {
        int wrong = wrongPlace(tray, place);
        if (wrong != FINE) {
            return deny(wrong);
        }
        trays[tray].put(place, v);
        return grant();
    }

    public long read(int tray, int place) {
        int wrong = wrongPlace(tray, place);
        if (wrong != FINE) {
            return refuse(wrong);
        }
        return answerLong(trays[tray].row[place]);
    }

    public boolean pour(int from, int place, int to, int at, int many) {
        if (!isTray(from) || !isTray(to) || place < 0 || at < 0 || many < 0) {
            return deny(IMPOSSIBLE_NUMBER);
        }
        Tray giver = trays[from];
        Tray taker = trays[to];
        if (giver.isMissing() || taker.isMissing()) {
            return deny(MISSING_TRAY);
        }
        if (giver.sort != taker.sort) {
            return deny(UNLIKE_SORTS);
        }
        if (!giver.hasStretch(place, many) || !taker.hasStretch(at, many)) {
            return deny(NO_SUCH_PLACE);
        }
        System.arraycopy(giver.row, place, taker.row, at, many);
        return grant();
    }

    private boolean isTray(int tray) {
        return tray >= 0 && tray < trays.length && trays[tray] != null;
    }

    private int wrongPlace(int tray, int place) {
        if (!isTray(tray)) {
            return IMPOSSIBLE_NUMBER;
        }
        if (trays[tray].isMissing()) {
            return MISSING_TRAY;
        }
        return place >= 0 && trays[tray].hasStretch(place, 1) ? FINE : NO_SUCH_PLACE;
    }

    // ---- texts

    public int feed(int a, int b, int c, int d, int e) {
        if (fed + BYTES_A_FEED > tape.length) {
            return NONE;
        }
        feedOne(a);
        feedOne(b);
        feedOne(c);
        feedOne(d);
        feedOne(e);
        return fed;
    }

    private void feedOne(int four) {
        for (int shift = 24; shift >= 0 && fed < tape.length; shift -= 8) {
            tape[fed] = (byte) (four >>> shift);
            fed++;
        }
    }

    public int river(int n) {
        if (n < 0 || n > fed) {
            return refuse(IMPOSSIBLE_NUMBER);
        }
        RiverReader reader = new RiverReader(new Tokens(tape, n));
        boolean taken = reader.readAll();
        endText(reader.tokens);
        if (!taken) {
            return refuse(FAULTY);
        }
        river = reader.river;
        rules = null;
        return answer(river.ships.many);
    }

    public int rules(int n) {
        if (n < 0 || n > fed || n > LONGEST_RULES) {
            return refuse(IMPOSSIBLE_NUMBER);
        }
        RulesReader reader = new RulesReader(new Tokens(tape, n), new Rules(n));
        boolean taken = reader.readAll();
        endText(reader.tokens);
        if (!taken) {
            return refuse(FAULTY);
        }
        rules = reader.rules;
        return answer(rules.many);
    }

    private void endText(Tokens tokens) {
        fed = 0;
        faultKind = tokens.fault;
        faultPlace = tokens.faultPlace;
    }

    public int fault(int what) {
        if (what == 0) {
            return faultKind;
        }
        return what == 1 ? faultPlace : NONE;
    }

    public int told(int what) {
        switch (what) {
            case 0: return answer(river.ports);
            case 1: return answer(river.ships.many);
            case 2: return answer(river.carts.many);
            case 3: return answer(rules == null ? 0 : rules.many);
            case 4: return answer(river.turns);
            case 5: return answer(river.frost);
            case 6: return answer(river.frostFrom);
            case 7: return answer(river.echo);
            default: return refuse(IMPOSSIBLE_NUMBER);
        }
    }

    public int ship(int ship, int what) {
        if (!isShip(ship)) {
            return refuse(IMPOSSIBLE_NUMBER);
        }
        switch (what) {
            case 0: return answer(river.shipPorts[ship]);
            case 1: return answer(river.ships.at[ship]);
            case 2: return answer(river.ships.takes[ship]);
            case 3: return answer(river.ships.costs[ship]);
            case 4: return answer(river.ships.sail[ship] ? 1 : 0);
            default: return refuse(IMPOSSIBLE_NUMBER);
        }
    }

    public int cart(int cart, int what) {
        if (!isCart(cart)) {
            return refuse(IMPOSSIBLE_NUMBER);
        }
        switch (what) {
            case 0: return answer(river.carts.at[cart]);
            case 1: return answer(river.carts.takes[cart]);
            case 2: return answer(river.carts.costs[cart]);
            default: return refuse(IMPOSSIBLE_NUMBER);
        }
    }

    public int nextShip(int k) {
        if (!isShip(k)) {
            return refuse(NONE_SUCH);
        }
        crossing.takeShips(river, 0, NONE, 0);
        return answer(crossing.ships.who[k]);
    }

    public int nextCart(int k) {
        if (!isCart(k)) {
            return refuse(NONE_SUCH);
        }
        crossing.takeCarts(river, NONE);
        return answer(crossing.carts.who[k]);
    }

    private boolean isPort(int port) {
        return port >= 0 && port < river.ports;
    }

    private boolean isShip(int ship) {
        return ship >= 0 && ship < river.ships.many;
    }

    private boolean isCart(int cart) {
        return cart >= 0 && cart < river.carts.many;
    }

    // ---- calls

    public long sound(int port) {
        return isPort(port) ? answerLong(river.sounds[port]) : refuse(IMPOSSIBLE_NUMBER);
    }

    public long heard(int port) {
        return isPort(port) ? answerLong(river.heardOf(port)) : refuse(IMPOSSIBLE_NUMBER);
    }

    public long together(int a, int b, int beats) {
        if (!isPort(a) || !isPort(b) || beats < 0 || beats > MOST_BEATS) {
            return refuse(IMPOSSIBLE_NUMBER);
        }
        return answerLong(river.bothHeard(a, b, beats));
    }

    public int lasts(int port) {
        if (!isPort(port)) {
            return refuse(IMPOSSIBLE_NUMBER);
        }
        return answer(LONG_BITS - Long.numberOfLeadingZeros(river.heardOf(port)));
    }

    public int far(int a, int b) {
        if (!isPort(a) || !isPort(b)) {
            return refuse(IMPOSSIBLE_NUMBER);
        }
        return answer(Long.bitCount(river.heardOf(a) ^ river.heardOf(b)));
    }

    public int readings(long sound) {
        if (sound < 1) {
            return refuse(IMPOSSIBLE_NUMBER);
        }
        manyReadings = 0;
        for (int port = 0; port < river.ports; port++) {
            if (river.heardOf(port) == sound) {
                addReading(port, ALONE, 0);
            }
        }
        for (int a = 0; a < river.ports; a++) {
            for (int b = 0; b < river.ports; b++) {
                for (int beats = river.leastBeats(a, b); beats <= MOST_BEATS; beats++) {
                    if (river.bothHeard(a, b, beats) == sound) {
                        addReading(a, b, beats);
                    }
                }
            }
        }
        return answer(manyReadings);
    }

    private void addReading(int a, int b, int beats) {
        if (manyReadings < MOST_READINGS) {
            readingsTold[3 * manyReadings] = a;
            readingsTold[3 * manyReadings + 1] = b;
            readingsTold[3 * manyReadings + 2] = beats;
            manyReadings++;
        }
    }

    public int reading(int k, int what) {
        if (what < 0 || what > 2) {
            return refuse(IMPOSSIBLE_NUMBER);
        }
        if (k < 0 || k >= manyReadings) {
            return refuse(NONE_SUCH);
        }
        if (what > 0 && readingsTold[3 * k + 1] == ALONE) {
            return refuse(NONE_SUCH);
        }
        return answer(readingsTold[3 * k + what]);
    }

    public boolean doubt(long sound, int port) {
        if (sound < 1 || !isPort(port)) {
            return deny(IMPOSSIBLE_NUMBER);
        }
        int all = river.countReadings(sound, NONE);
        if (all == 0) {
            return deny(NONE_SUCH);
        }
        tellFraction(river.countReadings(sound, port), all);
        return grant();
    }

    public int alike() {
        return answer(river.couplesAlike(river.echo));
    }

    public int code(int many, int blasts, int echo) {
        if (many < 1 || many > MOST_CODE_CALLS || blasts < 1 || blasts > MOST_CODE_BLASTS
                || echo < 0 || echo > MOST_ECHO) {
            return refuse(IMPOSSIBLE_NUMBER);
        }
        return codeSearch.find(many, blasts, echo) ? answer(codeSearch.blastsTold()) : refuse(NONE_SUCH);
    }

    public long codeAt(int k) {
        if (k < 0 || k >= codeSearch.manyTold) {
            return refuse(NONE_SUCH);
        }
        return answerLong(codeSearch.callTold(k));
    }

    public int parts(long sound) {
        if (sound < 1) {
            return refuse(IMPOSSIBLE_NUMBER);
        }
        int set = 0;
        for (int port = 0; port < river.ports; port++) {
            if ((river.heardOf(port) & ~sound) == 0) {
                set |= 1 << port;
            }
        }
        return answer(set);
    }

    public int clearBeats(int a, int b) {
        if (!isPort(a) || !isPort(b)) {
            return refuse(IMPOSSIBLE_NUMBER);
        }
        for (int beats = 0; beats <= MOST_BEATS; beats++) {
            if (river.countReadings(river.bothHeard(a, b, beats), NONE) == 1) {
                return answer(beats);
            }
        }
        return refuse(NONE_SUCH);
    }

    public int clearEcho() {
        for (int echo = 0; echo <= MOST_ECHO; echo++) {
            if (river.couplesAlike(echo) == 0) {
                return answer(echo);
            }
        }
        return refuse(NONE_SUCH);
    }

    public int silent() {
        long any = 0;
        for (int port = 0; port < river.ports; port++) {
            any |= river.heardOf(port);
        }
        return answer(Long.numberOfTrailingZeros(~any));
    }

    // ---- the least waits

    public int least() {
        return answerWaits(leastAsTold());
    }

    public int plan() {
        crossing.takeAll(river);
        if (!crossing.layPlan()) {
            return refuse(NONE_SUCH);
        }
        crossing.tellPlan();
        return answer(crossing.actsTold);
    }

    public int planAt(int k, int what) {
        if (what < 0 || what > 2) {
            return refuse(IMPOSSIBLE_NUMBER);
        }
        if (k < 0 || k >= crossing.actsTold) {
            return refuse(NONE_SUCH);
        }
        if (what == 2 && crossing.planTold[3 * k] == Crossing.TURN) {
            return refuse(NONE_SUCH);
        }
        return answer(crossing.planTold[3 * k + what]);
    }

    public int worth(int ship) {
        if (!isShip(ship)) {
            return refuse(IMPOSSIBLE_NUMBER);
        }
        int asTold = leastAsTold();
        if (asTold >= Crossing.HOPELESS) {
            return refuse(NONE_SUCH);
        }
        crossing.takeShips(river, 1 << ship, NONE, 0);
        return answer(asTold - crossing.leastWaits());
    }

    public int quicker(int minutes) {
        if (minutes < 1 || minutes > MOST_TURNS) {
            return refuse(IMPOSSIBLE_NUMBER);
        }
        crossing.takeAll(river);
        crossing.turns = minutes;
        return answerWaits(crossing.leastWaits());
    }

    public int away() {
        crossing.takeAll(river);
        for (int many = 0; many <= river.ships.many; many++) {
            for (int set = 0; set < 1 << river.ships.many; set++) {
                if (Integer.bitCount(set) == many) {
                    crossing.takeShips(river, set, NONE, 0);
                    if (crossing.allCanPass()) {
                        return answer(set);
                    }
                }
            }
        }
        return refuse(NONE_SUCH);
    }

    public int later(int ship, int minutes) {
        if (!isShip(ship) || minutes < 0 || minutes > MOST_LATER) {
            return refuse(IMPOSSIBLE_NUMBER);
        }
        crossing.takeAll(river);
        crossing.takeShips(river, 0, ship, minutes);
        return answerWaits(crossing.leastWaits());
    }

    public int slack(int ship) {
        if (!isShip(ship)) {
            return refuse(IMPOSSIBLE_NUMBER);
        }
        int asTold = leastAsTold();
        if (asTold >= Crossing.HOPELESS) {
            return refuse(NONE_SUCH);
        }
        for (int minutes = MOST_LATER; minutes > 0; minutes--) {
            crossing.takeShips(river, 0, ship, minutes);
            if (crossing.canPassWithin(asTold)) {
                return answer(minutes);
            }
        }
        return answer(0);
    }

    public int without(int cart) {
        if (!isCart(cart)) {
            return refuse(IMPOSSIBLE_NUMBER);
        }
        crossing.takeAll(river);
        crossing.takeCarts(river, cart);
        return answerWaits(crossing.leastWaits());
    }

    public int dearest() {
        crossing.takeAll(river);
        int who = crossing.layPlan() ? crossing.dearestByPlan(river) : NONE;
        return who == NONE ? refuse(NONE_SUCH) : answer(who);
    }

    public int opened() {
        crossing.takeAll(river);
        return crossing.layPlan() ? answer(crossing.openedByPlan()) : refuse(NONE_SUCH);
    }

    public int busiest() {
        crossing.takeAll(river);
        int minute = crossing.layPlan() ? crossing.busiestByPlan() : NONE;
        return minute == NONE ? refuse(NONE_SUCH) : answer(minute);
    }

    private int leastAsTold() {
        crossing.takeAll(river);
        return crossing.leastWaits();
    }

    private int answerWaits(int waits) {
        return waits >= Crossing.HOPELESS ? refuse(NONE_SUCH) : answer(waits);
    }

    // ---- RULES

    public int keep(int seed) {
        if (seed < NONE || seed > LAST_SEED) {
            return refuse(IMPOSSIBLE_NUMBER);
        }
        if (rules == null) {
            return refuse(NONE_SUCH);
        }
        keeper.spendDay(river, rules, seed);
        keeper.tellDay();
        return answer(keeper.waits);
    }

    public int kept(int what) {
        if (what < 0 || what >= keeper.dayTold.length) {
            return refuse(IMPOSSIBLE_NUMBER);
        }
        return keeper.hasTold ? answer(keeper.dayTold[what]) : refuse(NONE_SUCH);
    }

    public boolean odds(int seed, int many) {
        int wrong = wrongSeeds(seed, many);
        if (wrong != FINE) {
            return deny(wrong);
        }
        int good = 0;
        for (int k = 0; k < many; k++) {
            keeper.spendDay(river, rules, seed + k);
            if (keeper.struck == 0 && keeper.left() == 0) {
                good++;
            }
        }
        tellFraction(good, many);
        return grant();
    }

    public int waits(int seed, int many) {
        int wrong = wrongSeeds(seed, many);
        if (wrong != FINE) {
            return refuse(wrong);
        }
        int all = 0;
        for (int k = 0; k < many; k++) {
            keeper.spendDay(river, rules, seed + k);
            all += keeper.waits;
        }
        return answer(all);
    }

    private int wrongSeeds(int seed, int many) {
        if (seed < 0 || seed > LAST_SEED || many < 1 || many > MOST_SEEDS || seed + many - 1 > LAST_SEED) {
            return IMPOSSIBLE_NUMBER;
        }
        return rules == null ? NONE_SUCH : FINE;
    }

    // ---- MARKS

    public int mark() {
        if (marks >= MOST_MARKS) {
            return refuse(TOO_MANY);
        }
        markedRivers[marks] = river;
        markedRules[marks] = rules;
        marks++;
        return answer(marks);
    }

    public int back() {
        if (marks < 1 || markedRivers[marks - 1] == null) {
            return refuse(NONE_SUCH);
        }
        marks--;
        river = markedRivers[marks];
        rules = markedRules[marks];
        return answer(marks);
    }

    // ---- answers

    private int answer(int value) {
        status = FINE;
        return value;
    }

    private long answerLong(long value) {
        status = FINE;
        return value;
    }

    private boolean grant() {
        status = FINE;
        return true;
    }

    private int refuse(int why) {
        status = why;
        return NONE;
    }

    private boolean deny(int why) {
        status = why;
        return false;
    }

    private void tellFraction(int part, int whole) {
        int divisor = commonDivisor(part, whole);
        if (divisor > 0) {
            top = part / divisor;
            bottom = whole / divisor;
        }
    }

    // Neither number is above MOST_READINGS, so that 64 rests are far more than enough.
    private static int commonDivisor(int a, int b) {
        int divisor = b;
        int rest = a;
        for (int step = 0; step < 64 && rest != 0; step++) {
            int next = divisor % rest;
            divisor = rest;
            rest = next;
        }
        return divisor;
    }

    /** A row of numbers of one sort; the row itself is made once. */
    private static final class Tray {
        private static final int LAST_SORT = 3;
        private static final int LONGEST = 60;

        private final long[] row = new long[LONGEST];
        private int sort = 0;
        // NONE as long as the TRAY is MISSING.
        private int many = NONE;

        private void lay(int newSort, int newMany) {
            sort = newSort;
            many = newMany;
            for (int i = 0; i < row.length; i++) {
                row[i] = 0;
            }
        }

        private boolean isMissing() {
            return many == NONE;
        }

        // Compared by subtracting, since place + length could wrap around.
        private boolean hasStretch(int place, int length) {
            return place <= many && length <= many - place;
        }

        private void put(int place, long v) {
            if (place < 0 || place >= row.length) {
                return;
            }
            switch (sort) {
                case 0: row[place] = (byte) v; break;
                case 1: row[place] = (short) v; break;
                case 2: row[place] = (int) v; break;
                default: row[place] = v; break;
            }
        }
    }

    /** The words that are no NAMES. */
    private enum Keyword {
        PORT("port"), CALLS("calls"), TURNS("turns"), FROST("frost"), FROM("from"), ECHO("echo"),
        SHIP("ship"), OF("of"), AT("at"), TAKES("takes"), COSTS("costs"), SAIL("sail"), CART("cart"),
        IF("if"), DO("do"), OPEN("open"), SHUT("shut"), REST("rest"), OR("or"), AND("and"), NOT("not"),
        WAITING("waiting"), SHIPS("ships"), CARTS("carts"), NEXT("next"), MINUTE("minute"), TURNED("turned");

        // Its letters, each 32 times what is ahead and it, as codeAt() tells them.
        private final long letters;

        private Keyword(String word) {
            long all = 0;
            for (int i = 0; i < word.length(); i++) {
                all = all * 32 + (word.charAt(i) - 'a' + 1);
            }
            letters = all;
        }
    }

    /** The TOKENS of a text, one at a time, and the first FAULT found in it. */
    private static final class Tokens {
        private static final Keyword[] KEYWORDS = Keyword.values();

        private static final int BLANK = 32;
        private static final int NEW_LINE = 10;

        private static final int WORD = 0;
        private static final int NUMBER = 1;
        private static final int SIGN = 2;
        private static final int END = 3;
        private static final int WRONG = 4;

        private static final int NO_TOKEN = 1;
        private static final int CANNOT_STAND = 2;
        private static final int WRONG_NAME = 3;
        private static final int WRONG_NUMBER = 4;
        private static final int TOLD_ALREADY = 5;
        private static final int ONE_MORE = 6;
        private static final int TOO_DEEP = 7;

        private static final int LONGEST_NAME = 8;
        private static final int LONGEST_BLASTS = 6;
        private static final int LONGEST_NUMBER = 4;

        private final byte[] text;
        private final int length;
        // Where the TOKEN that is looked at ends.
        private int next = 0;

        // The TOKEN that is looked at.
        private int kind = END;
        private int place = 0;
        private int size = 0;
        private long letters = 0;
        private Keyword keyword = null;
        private int number = 0;
        private int sign = 0;

        private int fault = 0;
        private int faultPlace = NONE;

        private Tokens(byte[] text, int length) {
            this.text = text;
            this.length = Math.min(length, text.length);
            step();
        }

        /** Goes on to the next TOKEN. */
        private void step() {
            while (next < length && (text[next] == BLANK || text[next] == NEW_LINE)) {
                next++;
            }
            place = next;
            keyword = null;
            if (next >= length) {
                kind = END;
                return;
            }
            byte first = text[next];
            if (first >= 'a' && first <= 'z') {
                stepWord();
            } else if (first >= '0' && first <= '9') {
                stepNumber();
            } else {
                kind = isSign(first) ? SIGN : WRONG;
                sign = first;
                next++;
            }
        }

        private void stepWord() {
            kind = WORD;
            letters = 0;
            while (next < length && text[next] >= 'a' && text[next] <= 'z') {
                letters = letters * 32 + (text[next] - 'a' + 1);
                next++;
            }
            size = next - place;
            for (int i = 0; i < KEYWORDS.length && size <= LONGEST_NAME; i++) {
                if (KEYWORDS[i].letters == letters) {
                    keyword = KEYWORDS[i];
                }
            }
        }

        private void stepNumber() {
            number = 0;
            while (next < length && text[next] >= '0' && text[next] <= '9') {
                number = number * 10 + (text[next] - '0');
                next++;
            }
            kind = next - place > LONGEST_NUMBER ? WRONG : NUMBER;
        }

        private static boolean isSign(byte c) {
            return c == ';' || c == '<' || c == '>' || c == '=' || c == '(' || c == ')';
        }

        /** Notes the FAULT of this TOKEN: what is no TOKEN has the least kind, whatever was due. */
        private boolean refuseToken(int why) {
            fault = kind == WRONG ? NO_TOKEN : why;
            faultPlace = place;
            return false;
        }

        private boolean isName() {
            return kind == WORD && keyword == null && size <= LONGEST_NAME;
        }

        private boolean isBlasts() {
            if (kind != WORD || size > LONGEST_BLASTS) {
                return false;
            }
            for (int i = place; i < next; i++) {
                if (text[i] != 'l' && text[i] != 's') {
                    return false;
                }
            }
            return true;
        }

        private boolean isSignOf(char c) {
            return kind == SIGN && sign == c;
        }

        private boolean takeKeyword(Keyword due) {
            if (keyword != due) {
                return refuseToken(CANNOT_STAND);
            }
            step();
            return true;
        }

        private boolean takeSign(char due) {
            if (!isSignOf(due)) {
                return refuseToken(CANNOT_STAND);
            }
            step();
            return true;
        }

        private boolean takeNumber(int lowest, int highest) {
            if (kind != NUMBER) {
                return refuseToken(CANNOT_STAND);
            }
            if (number < lowest || number > highest) {
                return refuseToken(WRONG_NUMBER);
            }
            step();
            return true;
        }
    }

    /** SHIPS, or CARTS, in a row: as they stand, or as they come. */
    private static final class Lane {
        private static final int LONGEST = 6;

        private int many = 0;
        private final int[] who = new int[LONGEST];
        private final int[] at = new int[LONGEST];
        private final int[] takes = new int[LONGEST];
        private final int[] costs = new int[LONGEST];
        private final boolean[] sail = new boolean[LONGEST];

        private void clear() {
            many = 0;
        }

        /** As it comes this minute: behind all that come as early. To be called by rising numbers. */
        private void join(Lane asTheyStand, int number, int minute) {
            if (many >= LONGEST || number < 0 || number >= asTheyStand.many) {
                return;
            }
            int k = many;
            many++;
            while (k > 0 && at[k - 1] > minute) {
                put(k, who[k - 1], at[k - 1], takes[k - 1], costs[k - 1], sail[k - 1]);
                k--;
            }
            put(k, number, minute, asTheyStand.takes[number], asTheyStand.costs[number], asTheyStand.sail[number]);
        }

        private void put(int k, int number, int minute, int takesMinutes, int costsAMinute, boolean isSail) {
            if (k < 0 || k >= LONGEST) {
                return;
            }
            who[k] = number;
            at[k] = minute;
            takes[k] = takesMinutes;
            costs[k] = costsAMinute;
            sail[k] = isSail;
        }
    }

    /** What a RIVER tells; it is never changed once it is taken, so that MARKS may share it. */
    private static final class River {
        private static final int MOST_PORTS = 6;
        private static final int LETTER_LONG = 12;

        private int ports = 0;
        private final long[] blasts = new long[MOST_PORTS];
        private final long[] sounds = new long[MOST_PORTS];
        private int turns = 5;
        private int frost = 0;
        private int frostFrom = 0;
        private int echo = 0;
        private final Lane ships = new Lane();
        private final int[] shipPorts = new int[Lane.LONGEST];
        private final Lane carts = new Lane();

        private int turnLength(int turnMinutes, int minute) {
            return minute >= frostFrom ? turnMinutes + frost : turnMinutes;
        }

        /** From the last blast to the first: each puts what follows it behind itself and a BEAT of silence. */
        private static long soundOf(long letters) {
            long sound = 0;
            long left = letters;
            for (int i = 0; i < Tokens.LONGEST_BLASTS && left != 0; i++) {
                sound = left % 32 == LETTER_LONG ? 7 | sound << 4 : 1 | sound << 2;
                left = left / 32;
            }
            return sound;
        }

        private static long withEcho(long sound, int beats) {
            return sound | sound << beats;
        }

        private long heardOf(int port) {
            return port >= 0 && port < ports ? withEcho(sounds[port], echo) : 0;
        }

        private long bothHeard(int a, int b, int beats) {
            return heardOf(a) | heardOf(b) << beats;
        }

        /** A couple begun at once is one READING only, told by its lower PORT. */
        private int leastBeats(int a, int b) {
            return b < a ? 1 : 0;
        }

        /** READINGS of a number: all of them (NONE), or those that a PORT is in. */
        private int countReadings(long sound, int port) {
            int count = 0;
            for (int a = 0; a < ports; a++) {
                if ((port == NONE || port == a) && heardOf(a) == sound) {
                    count++;
                }
                for (int b = 0; b < ports; b++) {
                    if (port == NONE || port == a || port == b) {
                        count += countBeats(sound, a, b);
                    }
                }
            }
            return count;
        }

        private int countBeats(long sound, int a, int b) {
            int count = 0;
            for (int beats = leastBeats(a, b); beats <= MOST_BEATS; beats++) {
                if (bothHeard(a, b, beats) == sound) {
                    count++;
                }
            }
            return count;
        }

        private int couplesAlike(int beats) {
            int count = 0;
            for (int a = 0; a < ports; a++) {
                for (int b = a + 1; b < ports; b++) {
                    if (withEcho(sounds[a], beats) == withEcho(sounds[b], beats)) {
                        count++;
                    }
                }
            }
            return count;
        }
    }

    /** Reads a RIVER, TOKEN by TOKEN. */
    private static final class RiverReader {
        private static final int LAST_MINUTE_TO_COME = 120;
        private static final int LAST_FROST_FROM = 200;
        private static final int MOST_FROST = 20;
        private static final int MOST_TAKES = 20;
        private static final int MOST_COSTS = 99;

        private final Tokens tokens;
        private final River river = new River();
        // NAMES by their letters: the PORTS', and all.
        private final long[] portNames = new long[River.MOST_PORTS];
        private final long[] names = new long[River.MOST_PORTS + 2 * Lane.LONGEST];
        private int manyNames = 0;
        private boolean turnsTold = false;
        private boolean frostTold = false;
        private boolean echoTold = false;

        private RiverReader(Tokens tokens) {
            this.tokens = tokens;
        }

        private boolean readAll() {
            for (int part = 0; part <= LONGEST_RIVER && tokens.kind != Tokens.END; part++) {
                boolean taken = false;
                if (tokens.keyword == Keyword.PORT) {
                    taken = readPort();
                } else if (tokens.keyword == Keyword.TURNS) {
                    taken = readTurns();
                } else if (tokens.keyword == Keyword.FROST) {
                    taken = readFrost();
                } else if (tokens.keyword == Keyword.ECHO) {
                    taken = readEcho();
                } else if (tokens.keyword == Keyword.SHIP) {
                    taken = readShip();
                } else if (tokens.keyword == Keyword.CART) {
                    taken = readCart();
                } else {
                    tokens.refuseToken(Tokens.CANNOT_STAND);
                }
                if (!taken || !tokens.takeSign(';')) {
                    return false;
                }
            }
            return true;
        }

        private boolean readPort() {
            int port = river.ports;
            if (port >= River.MOST_PORTS) {
                return tokens.refuseToken(Tokens.ONE_MORE);
            }
            tokens.step();
            portNames[port] = tokens.letters;
            if (!takeNewName() || !tokens.takeKeyword(Keyword.CALLS)) {
                return false;
            }
            if (!tokens.isBlasts()) {
                return tokens.refuseToken(Tokens.CANNOT_STAND);
            }
            for (int i = 0; i < port; i++) {
                if (river.blasts[i] == tokens.letters) {
                    return tokens.refuseToken(Tokens.TOLD_ALREADY);
                }
            }
            river.blasts[port] = tokens.letters;
            river.sounds[port] = River.soundOf(tokens.letters);
            river.ports++;
            tokens.step();
            return true;
        }

        private boolean readTurns() {
            if (turnsTold) {
                return tokens.refuseToken(Tokens.TOLD_ALREADY);
            }
            turnsTold = true;
            tokens.step();
            river.turns = tokens.number;
            return tokens.takeNumber(1, MOST_TURNS);
        }

        private boolean readFrost() {
            if (frostTold) {
                return tokens.refuseToken(Tokens.TOLD_ALREADY);
            }
            frostTold = true;
            tokens.step();
            river.frost = tokens.number;
            if (!tokens.takeNumber(0, MOST_FROST) || !tokens.takeKeyword(Keyword.FROM)) {
                return false;
            }
            river.frostFrom = tokens.number;
            return tokens.takeNumber(0, LAST_FROST_FROM);
        }

        private boolean readEcho() {
            if (echoTold) {
                return tokens.refuseToken(Tokens.TOLD_ALREADY);
            }
            echoTold = true;
            tokens.step();
            river.echo = tokens.number;
            return tokens.takeNumber(0, MOST_ECHO);
        }

        private boolean readShip() {
            int ship = river.ships.many;
            if (ship >= Lane.LONGEST) {
                return tokens.refuseToken(Tokens.ONE_MORE);
            }
            tokens.step();
            if (!takeNewName() || !tokens.takeKeyword(Keyword.OF)) {
                return false;
            }
            if (!tokens.isName()) {
                return tokens.refuseToken(Tokens.CANNOT_STAND);
            }
            int port = portNamed(tokens.letters);
            if (port == NONE) {
                return tokens.refuseToken(Tokens.WRONG_NAME);
            }
            tokens.step();
            river.shipPorts[ship] = port;
            if (!readComing(river.ships)) {
                return false;
            }
            if (tokens.keyword == Keyword.SAIL) {
                river.ships.sail[ship] = true;
                tokens.step();
            }
            return true;
        }

        private boolean readCart() {
            if (river.carts.many >= Lane.LONGEST) {
                return tokens.refuseToken(Tokens.ONE_MORE);
            }
            tokens.step();
            return takeNewName() && readComing(river.carts);
        }

        /** at NUMBER takes NUMBER costs NUMBER, of one more in the lane. */
        private boolean readComing(Lane lane) {
            if (!tokens.takeKeyword(Keyword.AT)) {
                return false;
            }
            int at = tokens.number;
            if (!tokens.takeNumber(0, LAST_MINUTE_TO_COME) || !tokens.takeKeyword(Keyword.TAKES)) {
                return false;
            }
            int takes = tokens.number;
            if (!tokens.takeNumber(1, MOST_TAKES) || !tokens.takeKeyword(Keyword.COSTS)) {
                return false;
            }
            int costs = tokens.number;
            if (!tokens.takeNumber(0, MOST_COSTS)) {
                return false;
            }
            lane.put(lane.many, lane.many, at, takes, costs, false);
            lane.many++;
            return true;
        }

        private boolean takeNewName() {
            if (!tokens.isName()) {
                return tokens.refuseToken(Tokens.CANNOT_STAND);
            }
            for (int i = 0; i < manyNames; i++) {
                if (names[i] == tokens.letters) {
                    return tokens.refuseToken(Tokens.WRONG_NAME);
                }
            }
            if (manyNames < names.length) {
                names[manyNames] = tokens.letters;
                manyNames++;
            }
            tokens.step();
            return true;
        }

        private int portNamed(long letters) {
            for (int port = 0; port < river.ports; port++) {
                if (portNames[port] == letters) {
                    return port;
                }
            }
            return NONE;
        }
    }

    /** RULES as rows of steps: each step puts a truth on a pile, or works on those at its top. */
    private static final class Rules {
        private static final int MOST = 12;

        private static final int ACT_OPEN = 0;
        private static final int ACT_SHUT = 1;
        private static final int ACT_REST = 2;

        private static final int STEP_LESS = 0;
        private static final int STEP_MORE = 1;
        private static final int STEP_SAME = 2;
        private static final int STEP_NOT = 3;
        private static final int STEP_AND = 4;
        private static final int STEP_OR = 5;

        // What a step compares: the facts of a minute.
        private static final int FACT_OPEN = 0;
        private static final int FACT_SHIPS = 1;
        private static final int FACT_CARTS = 2;
        private static final int FACT_NEXT = 3;
        private static final int FACT_MINUTE = 4;
        private static final int FACT_TURNED = 5;
        private static final int FACTS = 6;

        private int many = 0;
        private final int[] acts = new int[MOST];
        // Behind the last step of each RULE.
        private final int[] ends = new int[MOST];
        private int steps = 0;
        private final int[] step;
        private final int[] fact;
        private final int[] number;

        /** Each step is told by a TOKEN of its own, so that a text's length is room enough. */
        private Rules(int length) {
            int room = Math.max(length, 0);
            step = new int[room];
            fact = new int[room];
            number = new int[room];
        }

        private void addStep(int newStep, int newFact, int newNumber) {
            if (steps < step.length) {
                step[steps] = newStep;
                fact[steps] = newFact;
                number[steps] = newNumber;
                steps++;
            }
        }

        private void endRule(int act) {
            if (many < MOST) {
                acts[many] = act;
                ends[many] = steps;
                many++;
            }
        }

        /** What the first RULE that holds does. */
        private int actBy(int[] facts) {
            int first = 0;
            for (int rule = 0; rule < many; rule++) {
                if (holds(first, ends[rule], facts)) {
                    return acts[rule];
                }
                first = ends[rule];
            }
            return ACT_REST;
        }

        /** The pile is the bits of a number; with six of not and brackets it is never above 13 high. */
        private boolean holds(int first, int end, int[] facts) {
            long pile = 0;
            for (int i = first; i < end && i < steps; i++) {
                long under = pile >> 1;
                switch (step[i]) {
                    case STEP_NOT: pile = pile ^ 1; break;
                    case STEP_AND: pile = under & (pile | ~1L); break;
                    case STEP_OR: pile = under | (pile & 1); break;
                    default: pile = pile << 1 | (compares(i, facts) ? 1 : 0); break;
                }
            }
            return (pile & 1) == 1;
        }

        private boolean compares(int i, int[] facts) {
            if (i < 0 || i >= steps || fact[i] < 0 || fact[i] >= facts.length) {
                return false;
            }
            int value = facts[fact[i]];
            switch (step[i]) {
                case STEP_LESS: return value < number[i];
                case STEP_MORE: return value > number[i];
                default: return value == number[i];
            }
        }
    }

    /** Reads RULES, TOKEN by TOKEN. */
    private static final class RulesReader {
        private static final int DEEPEST = 6;
        private static final int MOST_CASES = 24;
        private static final int MOST_NUMBER = 300;

        private final Tokens tokens;
        private final Rules rules;
        private int manyCases = 0;

        private RulesReader(Tokens tokens, Rules rules) {
            this.tokens = tokens;
            this.rules = rules;
        }

        private boolean readAll() {
            for (int rule = 0; rule <= Rules.MOST && tokens.kind != Tokens.END; rule++) {
                if (!readRule()) {
                    return false;
                }
            }
            return true;
        }

        private boolean readRule() {
            if (tokens.keyword == Keyword.IF && rules.many >= Rules.MOST) {
                return tokens.refuseToken(Tokens.ONE_MORE);
            }
            if (!tokens.takeKeyword(Keyword.IF) || !readEither(0) || !tokens.takeKeyword(Keyword.DO)) {
                return false;
            }
            int act = actTold();
            if (act == NONE) {
                return tokens.refuseToken(Tokens.CANNOT_STAND);
            }
            tokens.step();
            rules.endRule(act);
            return tokens.takeSign(';');
        }

        private int actTold() {
            if (tokens.keyword == Keyword.OPEN) {
                return Rules.ACT_OPEN;
            }
            if (tokens.keyword == Keyword.SHUT) {
                return Rules.ACT_SHUT;
            }
            return tokens.keyword == Keyword.REST ? Rules.ACT_REST : NONE;
        }

        private boolean readEither(int depth) {
            if (!readBoth(depth)) {
                return false;
            }
            for (int i = 0; i < LONGEST_RULES && tokens.keyword == Keyword.OR; i++) {
                tokens.step();
                if (!readBoth(depth)) {
                    return false;
                }
                rules.addStep(Rules.STEP_OR, 0, 0);
            }
            return true;
        }

        private boolean readBoth(int depth) {
            if (!readOne(depth)) {
                return false;
            }
            for (int i = 0; i < LONGEST_RULES && tokens.keyword == Keyword.AND; i++) {
                tokens.step();
                if (!readOne(depth)) {
                    return false;
                }
                rules.addStep(Rules.STEP_AND, 0, 0);
            }
            return true;
        }

        private boolean readOne(int depth) {
            boolean nests = tokens.keyword == Keyword.NOT || tokens.isSignOf('(');
            int fact = factTold();
            if (!nests && fact == NONE) {
                return tokens.refuseToken(Tokens.CANNOT_STAND);
            }
            if (!nests && manyCases >= MOST_CASES) {
                return tokens.refuseToken(Tokens.ONE_MORE);
            }
            if (depth >= DEEPEST) {
                return tokens.refuseToken(Tokens.TOO_DEEP);
            }
            return nests ? readNested(depth) : readCase(fact);
        }

        private boolean readNested(int depth) {
            boolean isNot = tokens.keyword == Keyword.NOT;
            tokens.step();
            if (!isNot) {
                return readEither(depth + 1) && tokens.takeSign(')');
            }
            if (!readOne(depth + 1)) {
                return false;
            }
            rules.addStep(Rules.STEP_NOT, 0, 0);
            return true;
        }

        private int factTold() {
            if (tokens.keyword == Keyword.OPEN || tokens.keyword == Keyword.SHUT) {
                return Rules.FACT_OPEN;
            }
            if (tokens.keyword == Keyword.SHIPS) {
                return Rules.FACT_SHIPS;
            }
            if (tokens.keyword == Keyword.CARTS) {
                return Rules.FACT_CARTS;
            }
            if (tokens.keyword == Keyword.NEXT) {
                return Rules.FACT_NEXT;
            }
            if (tokens.keyword == Keyword.MINUTE) {
                return Rules.FACT_MINUTE;
            }
            return tokens.keyword == Keyword.TURNED ? Rules.FACT_TURNED : NONE;
        }

        private boolean readCase(int fact) {
            manyCases++;
            if (fact == Rules.FACT_OPEN) {
                rules.addStep(Rules.STEP_SAME, fact, tokens.keyword == Keyword.OPEN ? 1 : 0);
                tokens.step();
                return true;
            }
            tokens.step();
            int comparing = comparesTold();
            if (comparing == NONE) {
                return tokens.refuseToken(Tokens.CANNOT_STAND);
            }
            tokens.step();
            rules.addStep(comparing, fact, tokens.number);
            return tokens.takeNumber(0, MOST_NUMBER);
        }

        private int comparesTold() {
            if (tokens.isSignOf('<')) {
                return Rules.STEP_LESS;
            }
            if (tokens.isSignOf('>')) {
                return Rules.STEP_MORE;
            }
            return tokens.isSignOf('=') ? Rules.STEP_SAME : NONE;
        }
    }

    /** Calls by fewer blasts and the alphabet, and the first row of them that is a CODE. */
    private static final class CodeSearch {
        private static final int LETTER_SHORT = 19;
        private static final int ALL_CALLS = 30;

        private final long[] letters = new long[ALL_CALLS];
        private final int[] blasts = new int[ALL_CALLS];
        private final long[] heardAs = new long[ALL_CALLS];
        private int manyCalls = 0;
        private final int[] row = new int[MOST_CODE_CALLS];
        private final int[] rowTold = new int[MOST_CODE_CALLS];
        private int manyTold = 0;

        private CodeSearch() {
            for (int many = 1; many <= MOST_CODE_BLASTS; many++) {
                for (int k = 0; k < 1 << many && manyCalls < ALL_CALLS; k++) {
                    letters[manyCalls] = lettersOf(many, k);
                    blasts[manyCalls] = many;
                    manyCalls++;
                }
            }
        }

        /** The k-th word of so many letters: from its highest bit on, 0 is an l, 1 is an s. */
        private static long lettersOf(int many, int k) {
            long all = 0;
            for (int bit = many - 1; bit >= 0; bit--) {
                all = all * 32 + ((k >> bit & 1) == 0 ? River.LETTER_LONG : LETTER_SHORT);
            }
            return all;
        }

        private boolean find(int many, int mostBlasts, int echo) {
            int end = 0;
            for (int k = 0; k < manyCalls; k++) {
                heardAs[k] = River.withEcho(River.soundOf(letters[k]), echo);
                if (blasts[k] <= mostBlasts) {
                    end = k + 1;
                }
            }
            if (many > row.length || !extend(0, many, 0, end)) {
                return false;
            }
            System.arraycopy(row, 0, rowTold, 0, many);
            manyTold = many;
            return true;
        }

        private boolean extend(int chosen, int many, int first, int end) {
            if (chosen >= many) {
                return true;
            }
            for (int call = first; call < end && chosen < row.length; call++) {
                row[chosen] = call;
                if (fitsLast(chosen) && extend(chosen + 1, many, call + 1, end)) {
                    return true;
                }
            }
            return false;
        }

        /** Whether the call chosen last is told apart from all ahead of it. */
        private boolean fitsLast(int last) {
            for (int a = 0; a < last; a++) {
                if (heardInRow(a) == heardInRow(last)) {
                    return false;
                }
                for (int b = 0; b < last; b++) {
                    boolean lastIsThird = (heardInRow(a) | heardInRow(b)) == heardInRow(last);
                    boolean bIsThird = (heardInRow(a) | heardInRow(last)) == heardInRow(b);
                    if (a != b && (lastIsThird || bIsThird)) {
                        return false;
                    }
                }
            }
            return true;
        }

        private long heardInRow(int k) {
            if (k < 0 || k >= row.length || row[k] < 0 || row[k] >= manyCalls) {
                return 0;
            }
            return heardAs[row[k]];
        }

        private long callTold(int k) {
            return k >= 0 && k < manyTold ? letters[rowTold[k]] : NONE;
        }

        private int blastsTold() {
            int all = 0;
            for (int k = 0; k < manyTold; k++) {
                all += blasts[rowTold[k]];
            }
            return all;
        }
    }

    /**
     * The least WAITS of SHIPS and CARTS. Nobody gains by a later beginning or a later turn (frost only makes
     * later turns longer), so that the order in which SHIPS and CARTS mix tells all minutes, and a search through
     * the orders, 924 at most, finds the LEAST.
     */
    private static final class Crossing {
        private static final int HOPELESS = 1000000000;
        private static final int LAST_MINUTE = 240;
        private static final int TURN = 2;
        // Each of 12 has a beginning, and at most one turn ahead of it.
        private static final int MOST_ACTS = 24;

        private River river = null;
        private int turns = 0;
        private final Lane ships = new Lane();
        private final Lane carts = new Lane();
        // What a search has found, and with what it may end.
        private int best = HOPELESS;
        private int enough = 0;
        // Three numbers of each act: 0 a SHIP, 1 a CART, 2 a turn; the minute; who.
        private int acts = 0;
        private final int[] planLaid = new int[3 * MOST_ACTS];
        private int actsTold = 0;
        private final int[] planTold = new int[3 * MOST_ACTS];
        // The beginnings by the PLAN, as they come.
        private final int[] shipBegins = new int[Lane.LONGEST];
        private final int[] cartBegins = new int[Lane.LONGEST];

        private void takeAll(River newRiver) {
            river = newRiver;
            turns = newRiver.turns;
            takeShips(newRiver, 0, NONE, 0);
            takeCarts(newRiver, NONE);
        }

        private void takeShips(River newRiver, int awaySet, int lateShip, int minutesLate) {
            ships.clear();
            for (int ship = 0; ship < newRiver.ships.many; ship++) {
                if ((awaySet >> ship & 1) == 0) {
                    int minute = newRiver.ships.at[ship] + (ship == lateShip ? minutesLate : 0);
                    ships.join(newRiver.ships, ship, minute);
                }
            }
        }

        private void takeCarts(River newRiver, int awayCart) {
            carts.clear();
            for (int cart = 0; cart < newRiver.carts.many; cart++) {
                if (cart != awayCart) {
                    carts.join(newRiver.carts, cart, newRiver.carts.at[cart]);
                }
            }
        }

        private int turnEnd(int minute) {
            return river == null ? minute + turns : minute + river.turnLength(turns, minute);
        }

        private int leastWaits() {
            best = HOPELESS;
            enough = 0;
            search(0, false, 0, 0, 0);
            return best;
        }

        private boolean canPassWithin(int waits) {
            return canEndWithin(0, false, 0, 0, waits);
        }

        private boolean allCanPass() {
            return canEndWithin(0, false, 0, 0, HOPELESS - 1);
        }

        /** Whether all others can pass from this minute on with no more than these WAITS. */
        private boolean canEndWithin(int minute, boolean open, int shipsGone, int cartsGone, int waits) {
            best = waits + 1;
            enough = waits;
            search(minute, open, shipsGone, cartsGone, 0);
            return best <= waits;
        }

        /** From a minute in which nobody passes and it does not turn; one more has gone at each level, 12 at most. */
        private void search(int minute, boolean open, int shipsGone, int cartsGone, int waits) {
            if (waits >= best || best <= enough) {
                return;
            }
            if (shipsGone >= ships.many && cartsGone >= carts.many) {
                best = waits;
                return;
            }
            if (shipsGone < ships.many) {
                int begin = Math.max(ships.at[shipsGone], open ? minute : turnEnd(minute));
                if (canBegin(ships, shipsGone, begin)) {
                    int costs = waitsOf(ships, shipsGone, begin);
                    search(begin + ships.takes[shipsGone], true, shipsGone + 1, cartsGone, waits + costs);
                }
            }
            if (cartsGone < carts.many) {
                int begin = Math.max(carts.at[cartsGone], open ? turnEnd(minute) : minute);
                if (canBegin(carts, cartsGone, begin)) {
                    int costs = waitsOf(carts, cartsGone, begin);
                    search(begin + carts.takes[cartsGone], false, shipsGone, cartsGone + 1, waits + costs);
                }
            }
        }

        private static boolean canBegin(Lane lane, int k, int minute) {
            if (k < 0 || k >= lane.many || minute > LAST_MINUTE || minute < lane.at[k]) {
                return false;
            }
            return !lane.sail[k] || minute == lane.at[k];
        }

        private static int waitsOf(Lane lane, int k, int begin) {
            return k >= 0 && k < lane.many ? (begin - lane.at[k]) * lane.costs[k] : 0;
        }

        /** Goes through the minutes and does in each what is first of all that still comes to the LEAST. */
        private boolean layPlan() {
            acts = 0;
            int left = leastWaits();
            if (left >= HOPELESS) {
                return false;
            }
            int minute = 0;
            boolean open = false;
            int shipsGone = 0;
            int cartsGone = 0;
            for (int step = 0; step <= LAST_MINUTE && shipsGone + cartsGone < ships.many + carts.many; step++) {
                if (open && shipMayBegin(minute, shipsGone, cartsGone, left)) {
                    left -= waitsOf(ships, shipsGone, minute);
                    addAct(0, minute, ships.who[shipsGone]);
                    shipBegins[shipsGone] = minute;
                    minute += ships.takes[shipsGone];
                    shipsGone++;
                } else if (!open && cartMayBegin(minute, shipsGone, cartsGone, left)) {
                    left -= waitsOf(carts, cartsGone, minute);
                    addAct(1, minute, carts.who[cartsGone]);
                    cartBegins[cartsGone] = minute;
                    minute += carts.takes[cartsGone];
                    cartsGone++;
                } else if (canEndWithin(minute + 1, open, shipsGone, cartsGone, left)) {
                    minute++;
                } else {
                    addAct(TURN, minute, NONE);
                    minute = turnEnd(minute);
                    open = !open;
                }
            }
            return true;
        }

        private boolean shipMayBegin(int minute, int shipsGone, int cartsGone, int left) {
            if (!canBegin(ships, shipsGone, minute)) {
                return false;
            }
            int behind = left - waitsOf(ships, shipsGone, minute);
            return canEndWithin(minute + ships.takes[shipsGone], true, shipsGone + 1, cartsGone, behind);
        }

        private boolean cartMayBegin(int minute, int shipsGone, int cartsGone, int left) {
            if (!canBegin(carts, cartsGone, minute)) {
                return false;
            }
            int behind = left - waitsOf(carts, cartsGone, minute);
            return canEndWithin(minute + carts.takes[cartsGone], false, shipsGone, cartsGone + 1, behind);
        }

        private void addAct(int what, int minute, int who) {
            if (acts < MOST_ACTS) {
                planLaid[3 * acts] = what;
                planLaid[3 * acts + 1] = minute;
                planLaid[3 * acts + 2] = who;
                acts++;
            }
        }

        private void tellPlan() {
            System.arraycopy(planLaid, 0, planTold, 0, planLaid.length);
            actsTold = acts;
        }

        /** By the PLAN laid latest: NONE if nobody's minutes times COST are above 0. */
        private int dearestByPlan(River asTold) {
            int most = 0;
            int dearest = NONE;
            for (int ship = 0; ship < asTold.ships.many; ship++) {
                int waits = waitsByNumber(ships, shipBegins, ship);
                if (waits > most) {
                    most = waits;
                    dearest = ship;
                }
            }
            for (int cart = 0; cart < asTold.carts.many; cart++) {
                int waits = waitsByNumber(carts, cartBegins, cart);
                if (waits > most) {
                    most = waits;
                    dearest = cart + Lane.LONGEST;
                }
            }
            return dearest;
        }

        private static int waitsByNumber(Lane lane, int[] begins, int number) {
            for (int k = 0; k < lane.many && k < begins.length; k++) {
                if (lane.who[k] == number) {
                    return waitsOf(lane, k, begins[k]);
                }
            }
            return 0;
        }

        private int openedByPlan() {
            int all = 0;
            boolean open = false;
            int since = 0;
            for (int k = 0; k < acts; k++) {
                if (planLaid[3 * k] == TURN) {
                    int minute = planLaid[3 * k + 1];
                    all += open ? minute - since : 0;
                    open = !open;
                    since = turnEnd(minute);
                }
            }
            int last = ships.many - 1;
            if (!open || last < 0) {
                return all;
            }
            // OPEN at last, so that a SHIP is the last to pass.
            return all + shipBegins[last] + ships.takes[last] - since;
        }

        /** By the PLAN laid latest: NONE if nobody waits. */
        private int busiestByPlan() {
            int most = 0;
            int busiest = NONE;
            for (int minute = 0; minute <= LAST_MINUTE; minute++) {
                int wait = waitingIn(ships, shipBegins, minute) + waitingIn(carts, cartBegins, minute);
                if (wait > most) {
                    most = wait;
                    busiest = minute;
                }
            }
            return busiest;
        }

        private static int waitingIn(Lane lane, int[] begins, int minute) {
            int wait = 0;
            for (int k = 0; k < lane.many && k < begins.length; k++) {
                if (lane.at[k] <= minute && begins[k] > minute) {
                    wait++;
                }
            }
            return wait;
        }
    }

    /** A day kept by RULES. */
    private static final class Keeper {
        private static final int END_OF_DAY = 301;
        private static final int NO_NEXT = 300;

        private static final int NOBODY = 0;
        private static final int A_SHIP = 1;
        private static final int A_CART = 2;
        private static final int THE_TURN = 3;

        private static final int LEFT = 0;
        private static final int BEGUN = 1;
        private static final int STRUCK = 2;

        private final Lane ships = new Lane();
        private final Lane carts = new Lane();
        private final int[] shipStates = new int[Lane.LONGEST];
        private final int[] facts = new int[Rules.FACTS];
        private int draws = 0;
        private int minute = 0;
        private boolean open = false;
        // What is under way, and in which minute it is over.
        private int underWay = NOBODY;
        private int until = 0;
        private int lastTurnEnd = 0;
        private int cartsBegun = 0;
        private int waits = 0;
        private int struck = 0;
        private int turnsBegun = 0;
        private int shipsPassed = 0;
        private boolean hasTold = false;
        private final int[] dayTold = new int[5];

        private void spendDay(River river, Rules rules, int seed) {
            comeLater(river, seed);
            open = false;
            underWay = NOBODY;
            until = 0;
            lastTurnEnd = 0;
            cartsBegun = 0;
            waits = 0;
            struck = 0;
            turnsBegun = 0;
            shipsPassed = 0;
            for (minute = 0; minute < END_OF_DAY; minute++) {
                endWhatIsOver();
                if (left() == 0 && underWay != A_SHIP && underWay != A_CART) {
                    return;
                }
                strikeSails();
                if (underWay == NOBODY) {
                    obey(river, rules);
                }
                if (underWay == NOBODY) {
                    beginNext();
                }
            }
            endWhatIsOver();
        }

        private void comeLater(River river, int seed) {
            draws = seed;
            ships.clear();
            carts.clear();
            for (int ship = 0; ship < river.ships.many; ship++) {
                ships.join(river.ships, ship, river.ships.at[ship] + delay(seed));
                shipStates[ship] = LEFT;
            }
            for (int cart = 0; cart < river.carts.many; cart++) {
                carts.join(river.carts, cart, river.carts.at[cart] + delay(seed));
            }
        }

        private int delay(int seed) {
            if (seed == NONE) {
                return 0;
            }
            draws = (draws * 2749 + 12553) % 65536;
            return draws / 8 % 8;
        }

        private void endWhatIsOver() {
            if (underWay == NOBODY || until > minute) {
                return;
            }
            if (underWay == THE_TURN) {
                open = !open;
                lastTurnEnd = until;
            } else if (underWay == A_SHIP) {
                shipsPassed++;
            }
            underWay = NOBODY;
        }

        private void strikeSails() {
            for (int k = 0; k < ships.many; k++) {
                boolean atOnce = open && underWay == NOBODY && firstShipLeft() == k;
                if (!atOnce) {
                    strikeIfDue(k);
                }
            }
        }

        private void strikeIfDue(int k) {
            if (k >= 0 && k < ships.many && ships.sail[k] && ships.at[k] == minute && shipStates[k] == LEFT) {
                shipStates[k] = STRUCK;
                struck++;
            }
        }

        private int firstShipLeft() {
            for (int k = 0; k < ships.many; k++) {
                if (shipStates[k] == LEFT) {
                    return k;
                }
            }
            return NONE;
        }

        private void obey(River river, Rules rules) {
            gatherFacts();
            int act = rules.actBy(facts);
            boolean turnsNow = open ? act == Rules.ACT_SHUT : act == Rules.ACT_OPEN;
            if (!turnsNow) {
                return;
            }
            underWay = THE_TURN;
            until = minute + river.turnLength(river.turns, minute);
            turnsBegun++;
            for (int k = 0; k < ships.many; k++) {
                strikeIfDue(k);
            }
        }

        private void gatherFacts() {
            int shipsHere = 0;
            int next = NO_NEXT;
            for (int k = ships.many - 1; k >= 0; k--) {
                if (ships.at[k] > minute) {
                    next = ships.at[k] - minute;
                } else if (shipStates[k] == LEFT) {
                    shipsHere++;
                }
            }
            int cartsHere = 0;
            for (int k = cartsBegun; k < carts.many; k++) {
                if (carts.at[k] <= minute) {
                    cartsHere++;
                }
            }
            facts[Rules.FACT_OPEN] = open ? 1 : 0;
            facts[Rules.FACT_SHIPS] = shipsHere;
            facts[Rules.FACT_CARTS] = cartsHere;
            facts[Rules.FACT_NEXT] = next;
            facts[Rules.FACT_MINUTE] = minute;
            facts[Rules.FACT_TURNED] = minute - lastTurnEnd;
        }

        private void beginNext() {
            int ship = firstShipLeft();
            if (open && ship != NONE && ships.at[ship] <= minute) {
                shipStates[ship] = BEGUN;
                begin(A_SHIP, ships, ship);
            } else if (!open && cartsBegun < carts.many && carts.at[cartsBegun] <= minute) {
                begin(A_CART, carts, cartsBegun);
                cartsBegun++;
            }
        }

        private void begin(int what, Lane lane, int k) {
            if (k >= 0 && k < lane.many) {
                underWay = what;
                until = minute + lane.takes[k];
                waits += (minute - lane.at[k]) * lane.costs[k];
            }
        }

        /** How many have neither begun nor are STRUCK. */
        private int left() {
            int many = carts.many - cartsBegun;
            for (int k = 0; k < ships.many; k++) {
                if (shipStates[k] == LEFT) {
                    many++;
                }
            }
            return many;
        }

        private void tellDay() {
            hasTold = true;
            dayTold[0] = struck;
            dayTold[1] = turnsBegun;
            dayTold[2] = minute;
            dayTold[3] = left();
            dayTold[4] = shipsPassed;
        }
    }
}
