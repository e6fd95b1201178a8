import java.util.ArrayList;
import java.util.HashMap;
import java.util.List;
import java.util.Map;
import java.util.Set;
import java.util.TreeSet;
import java.util.function.ToIntFunction;
import java.util.regex.Matcher;
import java.util.regex.Pattern;

/** A RIVER's or RULES' text, read as the document's words say it. */
final class ToldTexts {
    private static final Set<String> NO_NAMES = Set.of("port", "calls", "turns", "frost", "from", "echo", "ship", "of",
            "at", "takes", "costs", "sail", "cart", "if", "do", "open", "shut", "rest", "or", "and", "not", "waiting",
            "ships", "carts", "next", "minute", "turned");
    private static final Pattern TOKEN = Pattern.compile("[ \n]*(?:([a-z]+)|([0-9]+)|([;<>=()])|(\\z)|(.))", Pattern.DOTALL);

    static final class River {
        final List<String> ports = new ArrayList<>();
        final List<Told.Passer> ships = new ArrayList<>();
        final List<Told.Passer> carts = new ArrayList<>();
        int turns = 5;
        int frost = 0;
        int frostFrom = 0;
        int echo = 0;
    }

    /** What holds or does not, by the facts of a minute. */
    interface Condition {
        boolean holds(ToIntFunction<String> facts);
    }

    record Rule(Condition either, String act) { }

    private static final class Fault extends RuntimeException {
        private Fault() {
            super(null, null, false, false);
        }
    }

    private final String text;
    private final Matcher matcher;
    // The TOKEN that is looked at.
    private String word;
    private String digits;
    private String sign;
    private boolean wrong;
    private int place;
    private final Set<String> toldAlready = new TreeSet<>();
    private final Map<String, Integer> names = new HashMap<>();
    private int cases = 0;
    int fault = 0;
    int faultPlace = -1;

    ToldTexts(String text) {
        this.text = text;
        matcher = TOKEN.matcher(text);
        step();
    }

    private void step() {
        matcher.find();
        word = matcher.group(1);
        digits = matcher.group(2);
        sign = matcher.group(3);
        wrong = matcher.group(5) != null || digits != null && digits.length() > 4;
        place = text.length();
        for (int group = 1; group <= 5; group++) {
            place = matcher.group(group) != null ? matcher.start(group) : place;
        }
    }

    private boolean isEnd() {
        return place == text.length();
    }

    private void need(boolean holds, int otherwise) {
        if (!holds) {
            fault = wrong ? 1 : otherwise;
            faultPlace = place;
            throw new Fault();
        }
    }

    private void take(String due) {
        need(due.equals(word) || due.equals(sign), 2);
        step();
    }

    private int number(int least, int most) {
        need(digits != null && !wrong, 2);
        int number = Integer.parseInt(digits);
        need(number >= least && number <= most, 4);
        step();
        return number;
    }

    private String name() {
        need(word != null && word.length() <= 8 && !NO_NAMES.contains(word), 2);
        return word;
    }

    private void newName(int number) {
        String name = name();
        need(!names.containsKey(name), 3);
        names.put(name, number);
        step();
    }

    /** Null with a FAULT. */
    River river() {
        River river = new River();
        try {
            while (!isEnd()) {
                part(river);
                take(";");
            }
            return river;
        } catch (Fault seen) {
            return null;
        }
    }

    private void part(River river) {
        String what = word == null ? "" : word;
        need(Set.of("port", "turns", "frost", "echo", "ship", "cart").contains(what), 2);
        need(!Set.of("turns", "frost", "echo").contains(what) || toldAlready.add(what), 5);
        int already = what.equals("port") ? river.ports.size() : what.equals("ship") ? river.ships.size()
                : what.equals("cart") ? river.carts.size() : 0;
        need(already < 6, 6);
        step();
        switch (what) {
            case "port": port(river); break;
            case "turns": river.turns = number(1, 20); break;
            case "frost":
                river.frost = number(0, 20);
                take("from");
                river.frostFrom = number(0, 200);
                break;
            case "echo": river.echo = number(0, 9); break;
            case "ship": ship(river); break;
            default:
                newName(-1);
                river.carts.add(passer(river.carts.size(), -1));
                break;
        }
    }

    private void port(River river) {
        newName(river.ports.size());
        take("calls");
        need(word != null && word.matches("[ls]{1,6}"), 2);
        need(!river.ports.contains(word), 5);
        river.ports.add(word);
        step();
    }

    private void ship(River river) {
        newName(-1);
        take("of");
        int port = names.getOrDefault(name(), -1);
        need(port >= 0, 3);
        step();
        Told.Passer ship = passer(river.ships.size(), port);
        boolean sail = "sail".equals(word);
        if (sail) {
            step();
        }
        river.ships.add(new Told.Passer(ship.number(), port, ship.at(), ship.takes(), ship.costs(), sail));
    }

    private Told.Passer passer(int number, int port) {
        take("at");
        int at = number(0, 120);
        take("takes");
        int takes = number(1, 20);
        take("costs");
        return new Told.Passer(number, port, at, takes, number(0, 99), false);
    }

    /** Null with a FAULT. */
    List<Rule> rules() {
        List<Rule> rules = new ArrayList<>();
        try {
            while (!isEnd()) {
                need(rules.size() < 12 || !"if".equals(word), 6);
                take("if");
                Condition either = either(0);
                take("do");
                need(word != null && Set.of("open", "shut", "rest").contains(word), 2);
                rules.add(new Rule(either, word));
                step();
                take(";");
            }
            return rules;
        } catch (Fault seen) {
            return null;
        }
    }

    private Condition either(int within) {
        Condition first = both(within);
        if (!"or".equals(word)) {
            return first;
        }
        step();
        Condition others = either(within);
        return facts -> first.holds(facts) || others.holds(facts);
    }

    private Condition both(int within) {
        Condition first = one(within);
        if (!"and".equals(word)) {
            return first;
        }
        step();
        Condition others = both(within);
        return facts -> first.holds(facts) && others.holds(facts);
    }

    private Condition one(int within) {
        String first = word != null ? word : sign != null ? sign : "";
        boolean state = Set.of("open", "shut").contains(first);
        boolean compares = Set.of("ships", "carts", "next", "minute", "turned").contains(first);
        need(state || compares || Set.of("not", "(").contains(first), 2);
        cases += state || compares ? 1 : 0;
        need(cases <= 24, 6);
        need(within < 6, 7);
        step();
        if (state) {
            return facts -> facts.applyAsInt(first) == 1;
        }
        if (first.equals("not")) {
            Condition denied = one(within + 1);
            return facts -> !denied.holds(facts);
        }
        if (first.equals("(")) {
            Condition inside = either(within + 1);
            take(")");
            return inside;
        }
        return comparison(first);
    }

    private Condition comparison(String fact) {
        String compares = sign == null ? "" : sign;
        need(Set.of("<", ">", "=").contains(compares), 2);
        step();
        int number = number(0, 300);
        return facts -> Integer.signum(facts.applyAsInt(fact) - number) == "<=>".indexOf(compares) - 1;
    }
}
