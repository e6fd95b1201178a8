import java.util.ArrayList;
import java.util.List;
import java.util.Random;

/** Promises 45 to 48: by hand, then drawn RULES against days minute by minute. */
public final class RulesTest {
    private static final Due due = new Due();

    public static void main(String[] args) {
        noRules();
        emptyRules();
        oneShip();
        sailsAreStruck();
        frostAndTurned();
        strikingTurn();
        endOfDay();
        logic();
        draws();
        keptStays();
        wrongInputs();
        Random random = new Random(5);
        for (int i = 0; i < 1500; i++) {
            drawn(random);
        }
        due.end("RulesTest");
    }

    private static void noRules() {
        HornBridge x = Due.at("port p calls l;");
        due.none(x, "keep", x.keep(-1), 6);
        due.none(x, "keep", x.keep(9999), 6);
        due.no(x, "odds", x.odds(0, 1), 6);
        due.none(x, "waits", x.waits(0, 1), 6);
        due.none(x, "kept", x.kept(0), 6);
        due.none(x, "kept", x.kept(5), 1);
        due.none(x, "keep", x.keep(10000), 1);
        due.no(x, "odds", x.odds(0, 21), 1);
        due.none(x, "waits", x.waits(-1, 1), 1);
    }

    private static void emptyRules() {
        HornBridge x = Due.at("cart c at 3 takes 2 costs 1;cart d at 4 takes 9 costs 7;", "");
        due.day(x, -1, 7, 0, 0, 14, 0, 0);
        HornBridge y = Due.at("", "");
        due.day(y, 0, 0, 0, 0, 0, 0, 0);
        due.fine(y, "odds", y.odds(0, 20));
        due.fraction(y, "odds", 1, 1);
        HornBridge z = Due.at("port p calls l;ship a of p at 3 takes 2 costs 1;", "");
        due.day(z, -1, 0, 0, 0, 301, 1, 0);
        due.fine(z, "odds", z.odds(9999, 1));
        due.fraction(z, "odds", 0, 1);
    }

    private static void oneShip() {
        HornBridge x = Due.at("port p calls l;turns 3;ship a of p at 10 takes 2 costs 5;", "if ships > 0 do open;");
        due.day(x, -1, 15, 0, 1, 15, 0, 1);
        HornBridge y = Due.at("port p calls l;turns 3;ship a of p at 10 takes 2 costs 5;", "if next < 4 do open;if open and ships = 0 do shut;");
        due.day(y, -1, 0, 0, 1, 12, 0, 1);
    }

    private static void sailsAreStruck() {
        HornBridge x = Due.at("port p calls l;turns 3;ship a of p at 10 takes 2 costs 5 sail;", "if ships > 0 do open;");
        due.day(x, -1, 0, 1, 0, 11, 0, 0);
        HornBridge y = Due.at("port p calls l;turns 3;ship a of p at 10 takes 2 costs 5 sail;ship b of p at 10 takes 2 costs 5 sail;"
                + "ship c of p at 11 takes 2 costs 5 sail;ship d of p at 12 takes 3 costs 5 sail;", "if shut do open;");
        due.day(y, -1, 0, 2, 1, 15, 0, 2);
        HornBridge z = Due.at("port p calls l;turns 3;ship a of p at 10 takes 2 costs 5;ship b of p at 10 takes 2 costs 5 sail;",
                "if shut do open;");
        due.day(z, -1, 0, 1, 1, 12, 0, 1);
        HornBridge w = Due.at("port p calls l;turns 20;ship a of p at 19 takes 2 costs 5 sail;", "if shut do open;");
        due.day(w, -1, 0, 1, 1, 20, 0, 0);
        HornBridge v = Due.at("port p calls l;turns 20;ship a of p at 20 takes 2 costs 5 sail;", "if shut do open;");
        due.day(v, -1, 0, 0, 1, 22, 0, 1);
    }

    private static void frostAndTurned() {
        String river = "port p calls l;turns 2;frost 3 from 10;ship a of p at 120 takes 1 costs 0;";
        // Turns begin in minute 0 (OPEN in 2), 9 (SHUT in 11), 18 (OPEN in 23), 30, 42, .. , 102, 114 (OPEN in 119).
        HornBridge x = Due.at(river, "if minute < 1 do open;if turned = 7 and open do shut;if turned = 7 do open;");
        due.day(x, -1, 0, 0, 11, 121, 0, 1);
    }

    private static void strikingTurn() {
        HornBridge x = Due.at("port p calls l;turns 2;ship a of p at 10 takes 2 costs 5 sail;",
                "if minute = 0 do open;if minute = 10 do shut;");
        due.day(x, -1, 0, 1, 2, 11, 0, 0);
        HornBridge y = Due.at("port p calls l;turns 2;ship a of p at 10 takes 2 costs 5;",
                "if minute = 0 do open;if minute = 10 do shut;");
        due.day(y, -1, 0, 0, 2, 301, 1, 0);
        HornBridge z = Due.at("port p calls l;turns 2;ship a of p at 10 takes 2 costs 5 sail;",
                "if minute = 0 do open;if minute = 10 do rest;if minute = 10 do shut;");
        due.day(z, -1, 0, 0, 1, 12, 0, 1);
    }

    private static void endOfDay() {
        String river = "port p calls l;turns 1;ship a of p at 0 takes 5 costs 1;";
        due.day(Due.at(river, "if minute > 294 do open;"), -1, 296, 0, 1, 301, 0, 1);
        due.day(Due.at(river, "if minute > 295 do open;"), -1, 297, 0, 1, 301, 0, 0);
        due.day(Due.at(river, "if minute > 299 do open;"), -1, 0, 0, 1, 301, 1, 0);
        due.day(Due.at(river, "if minute > 300 do open;"), -1, 0, 0, 0, 301, 1, 0);
    }

    private static void logic() {
        String river = "port p calls l;turns 1;ship a of p at 0 takes 1 costs 1;";
        String[] hold = {"shut", "not open", "shut or open and open", "(shut or open) and shut", "not (open or ships>1)",
            "not not shut", "not open and not open", "ships=1 and carts=0 and next=300 and minute=0 and turned=0",
            "open or open or not (not shut and shut)", "next>299", "not next<300"};
        String[] fail = {"open", "not shut", "(shut or open) and open", "not (shut or ships>1)", "not shut and shut",
            "ships=0", "carts>0", "next>300", "minute>300", "turned<0", "not not open", "shut and (open or open)"};
        for (String either : hold) {
            due.day(Due.at(river, "if " + either + " do open;"), -1, 1, 0, 1, 2, 0, 1);
        }
        for (String either : fail) {
            HornBridge x = Due.at(river, "if (" + either + ") and minute = 0 do open;if minute = 50 do open;");
            due.day(x, -1, 51, 0, 1, 52, 0, 1);
        }
    }

    private static void draws() {
        // From 0: 12553, by 8 is 1569, by 8 leaves 1; then 48814, by 8 is 6101, by 8 leaves 5.
        HornBridge x = Due.at("cart a at 0 takes 1 costs 0;cart b at 0 takes 1 costs 0;", "");
        due.day(x, 0, 0, 0, 0, 6, 0, 0);
        HornBridge y = Due.at("port p calls l;turns 1;cart a at 0 takes 1 costs 0;ship b of p at 0 takes 1 costs 0;",
                "if ships > 0 do open;");
        due.day(y, 0, 0, 0, 1, 301, 1, 1);
        due.fine(y, "odds", y.odds(0, 20));
        due.is("odds of some", y.top() > 0 && y.top() < y.bottom(), true);
    }

    private static void keptStays() {
        HornBridge x = Due.at("port p calls l;turns 3;ship a of p at 10 takes 2 costs 5;", "if ships > 0 do open;");
        x.keep(-1);
        x.waits(0, 20);
        x.odds(0, 20);
        due.none(x, "a wrong seed", x.keep(-2), 1);
        Due.river(x, "");
        due.none(x, "no RULES", x.keep(0), 6);
        int[] kept = {0, 1, 15, 0, 1};
        for (int what = 0; what < 5; what++) {
            due.fine(x, "kept(" + what + ")", x.kept(what), kept[what]);
        }
    }

    private static void wrongInputs() {
        HornBridge x = Due.at("", "");
        for (int seed : new int[] {-2, 10000, Integer.MIN_VALUE, Integer.MAX_VALUE}) {
            due.none(x, "keep", x.keep(seed), 1);
            due.no(x, "odds", x.odds(seed, 1), 1);
            due.none(x, "waits", x.waits(seed, 1), 1);
        }
        due.no(x, "odds without a seed", x.odds(-1, 1), 1);
        due.none(x, "waits without a seed", x.waits(-1, 1), 1);
        for (int many : new int[] {0, -1, 21, Integer.MIN_VALUE, Integer.MAX_VALUE}) {
            due.no(x, "odds", x.odds(0, many), 1);
            due.none(x, "waits", x.waits(0, many), 1);
        }
        due.no(x, "the last above 9,999", x.odds(9981, 20), 1);
        due.none(x, "the last above 9,999", x.waits(9981, 20), 1);
        due.fine(x, "the last 9,999", x.odds(9980, 20));
        due.fine(x, "the last 9,999", x.waits(9980, 20), 0);
        due.fine(x, "keep(9999)", x.keep(9999), 0);
        for (int what : new int[] {-1, 5, Integer.MIN_VALUE, Integer.MAX_VALUE}) {
            due.none(x, "kept", x.kept(what), 1);
        }
    }

    // ---- drawn

    /** An EITHER, a BOTH or a ONE. */
    private static final class Term {
        final String kind;
        final Term a;
        final Term b;
        final int number;

        Term(String kind, Term a, Term b, int number) {
            this.kind = kind;
            this.a = a;
            this.b = b;
            this.number = number;
        }

        boolean holds(Day day) {
            switch (kind) {
                case "or": return a.holds(day) || b.holds(day);
                case "and": return a.holds(day) && b.holds(day);
                case "not": return !a.holds(day);
                case "(": return a.holds(day);
                case "open": return day.open;
                case "shut": return !day.open;
                default: break;
            }
            int value = day.value(kind.substring(0, kind.length() - 1));
            char compares = kind.charAt(kind.length() - 1);
            return compares == '<' ? value < number : compares == '>' ? value > number : value == number;
        }

        String text() {
            switch (kind) {
                case "or":
                case "and": return a.text() + " " + kind + " " + b.text();
                case "not": return "not " + a.text();
                case "(": return "(" + a.text() + ")";
                case "open":
                case "shut": return kind;
                default: return kind + number;
            }
        }
    }

    private static Term either(Random random, int depth) {
        Term term = both(random, depth);
        while (random.nextInt(5) == 0) {
            term = new Term("or", term, both(random, depth), 0);
        }
        return term;
    }

    private static Term both(Random random, int depth) {
        Term term = one(random, depth);
        while (random.nextInt(4) == 0) {
            term = new Term("and", term, one(random, depth), 0);
        }
        return term;
    }

    private static Term one(Random random, int depth) {
        int what = random.nextInt(depth < 5 ? 10 : 8);
        if (what == 9) {
            return new Term("not", one(random, depth + 1), null, 0);
        }
        if (what == 8) {
            return new Term("(", either(random, depth + 1), null, 0);
        }
        if (what == 7) {
            return new Term(random.nextBoolean() ? "open" : "shut", null, null, 0);
        }
        String[] cases = {"ships", "carts", "next", "minute", "turned"};
        int which = random.nextInt(5);
        int number = random.nextInt(which < 2 ? 4 : which == 3 ? 200 : 25);
        return new Term(cases[which] + "<>=".charAt(random.nextInt(which < 2 ? 3 : 2)), null, null, number);
    }

    /** A day as the document's words tell it. */
    private static final class Day {
        /** Of each: number, AT (later by the draw), TAKES, COSTS, SAIL, begun in (-1: not), 1 if STRUCK. */
        final List<int[]> ships = new ArrayList<>();
        final List<int[]> carts = new ArrayList<>();
        boolean open = false;
        int minute = 0;
        int turned = 0;
        int turnsBegun = 0;

        Day(Model model, int seed) {
            int s = seed;
            for (List<int[]> all : List.of(model.ships, model.carts)) {
                for (int[] one : all) {
                    s = (int) ((s * 2749L + 12553) % 65536);
                    int later = seed < 0 ? 0 : s / 8 % 8;
                    (all == model.ships ? ships : carts)
                            .add(new int[] {one[0], one[1] + later, one[2], one[3], one[4], -1, 0});
                }
            }
            ships.sort((a, b) -> a[1] != b[1] ? a[1] - b[1] : a[0] - b[0]);
            carts.sort((a, b) -> a[1] != b[1] ? a[1] - b[1] : a[0] - b[0]);
        }

        int value(String what) {
            switch (what) {
                case "ships": return (int) ships.stream().filter(this::waits).count();
                case "carts": return (int) carts.stream().filter(this::waits).count();
                case "next": return ships.stream().filter(s -> s[1] > minute).mapToInt(s -> s[1] - minute).min().orElse(300);
                case "minute": return minute;
                default: return minute - turned;
            }
        }

        private boolean waits(int[] one) {
            return one[1] <= minute && isLeft(one);
        }

        private static boolean isLeft(int[] one) {
            return one[5] < 0 && one[6] == 0;
        }

        void spend(Model model, List<Term> terms, List<String> acts) {
            int turnOver = -1;
            int passingOver = 0;
            for (minute = 0; minute < 301; minute++) {
                if (turnOver == minute) {
                    open = !open;
                    turned = minute;
                    turnOver = -1;
                }
                boolean passing = passingOver > minute;
                if (!passing && ships.stream().noneMatch(Day::isLeft) && carts.stream().noneMatch(Day::isLeft)) {
                    return;
                }
                for (int[] ship : ships) {
                    boolean ahead = false;
                    for (int[] other : ships) {
                        if (other == ship) {
                            break;
                        }
                        ahead |= isLeft(other);
                    }
                    if (ship[4] == 1 && ship[1] == minute && (!open || turnOver >= 0 || passing || ahead)) {
                        ship[6] = 1;
                    }
                }
                if (turnOver >= 0 || passing) {
                    continue;
                }
                String act = "rest";
                for (int k = terms.size() - 1; k >= 0; k--) {
                    act = terms.get(k).holds(this) ? acts.get(k) : act;
                }
                if (act.equals(open ? "shut" : "open")) {
                    turnOver = minute + model.turns + (minute >= model.frostFrom ? model.frost : 0);
                    turnsBegun++;
                    ships.stream().filter(s -> s[4] == 1 && s[1] == minute && isLeft(s)).forEach(s -> s[6] = 1);
                    continue;
                }
                for (int[] one : open ? ships : carts) {
                    if (isLeft(one)) {
                        if (one[1] <= minute) {
                            one[5] = minute;
                            passingOver = minute + one[2];
                        }
                        break;
                    }
                }
            }
        }

        int waits() {
            int all = 0;
            for (List<int[]> row : List.of(ships, carts)) {
                for (int[] one : row) {
                    all += one[5] < 0 ? 0 : (one[5] - one[1]) * one[3];
                }
            }
            return all;
        }

        int kept(int what) {
            switch (what) {
                case 0: return (int) ships.stream().filter(s -> s[6] == 1).count();
                case 1: return turnsBegun;
                case 2: return minute;
                case 3: return (int) (ships.stream().filter(Day::isLeft).count() + carts.stream().filter(Day::isLeft).count());
                default: return (int) ships.stream().filter(s -> s[5] >= 0 && s[5] + s[2] <= minute).count();
            }
        }
    }

    private static Day spend(Model model, int seed, List<Term> terms, List<String> acts) {
        Day day = new Day(model, seed);
        day.spend(model, terms, acts);
        return day;
    }

    private static void drawn(Random random) {
        Model model = Model.drawn(random);
        List<Term> terms = new ArrayList<>();
        List<String> acts = new ArrayList<>();
        StringBuilder text = new StringBuilder();
        int many = random.nextInt(9);
        for (int i = 0; i < many; i++) {
            terms.add(either(random, 0));
            acts.add(new String[] {"open", "shut", "rest"}[random.nextInt(3)]);
            text.append("if ").append(terms.get(i).text()).append(" do ").append(acts.get(i)).append(";\n");
        }
        HornBridge x = Due.at(model.text());
        if (text.length() > 300) {
            due.none(x, "too long", Due.rules(x, text.toString()), 1);
            return;
        }
        int cases = text.toString().split("open|shut|ships|carts|next|minute|turned", -1).length - 1;
        int inActs = text.toString().split("do open|do shut", -1).length - 1;
        if (cases - inActs > 24) {
            due.none(x, "a 25th case", Due.rules(x, text.toString()), 9);
            due.is("fault", x.fault(0), 6);
            return;
        }
        due.fine(x, "rules", Due.rules(x, text.toString()), many);
        for (int i = 0; i < 6; i++) {
            int seed = i == 0 ? -1 : random.nextInt(10000);
            Day day = spend(model, seed, terms, acts);
            due.fine(x, "keep " + model.text() + text, x.keep(seed), day.waits());
            for (int what = 0; what < 5; what++) {
                due.fine(x, "kept " + what + " " + model.text() + text, x.kept(what), day.kept(what));
            }
        }
        int days = 1 + random.nextInt(20);
        int seed = random.nextInt(10001 - days);
        int waits = 0;
        int good = 0;
        for (int k = 0; k < days; k++) {
            Day day = spend(model, seed + k, terms, acts);
            waits += day.waits();
            good += day.kept(0) == 0 && day.kept(3) == 0 ? 1 : 0;
        }
        due.fine(x, "waits", x.waits(seed, days), waits);
        due.fine(x, "odds", x.odds(seed, days));
        due.is("odds crosswise", x.top() * days, x.bottom() * good);
    }
}
