import java.util.ArrayList;
import java.util.List;

/** A day kept by RULES, as the document's words say it, minute by minute. */
final class ToldDay {
    /** One who is to pass: still there, passing, past, or STRUCK. */
    private static final class One {
        private Told.Passer who;
        private String now = "there";
    }

    private final ToldTexts.River river;
    private final List<ToldTexts.Rule> rules;
    private final List<One> ships = new ArrayList<>();
    private final List<One> carts = new ArrayList<>();
    private int draws;
    private String bridge = "shut";
    private int sinceMinute = 0;
    // To what it turns, null if it does not.
    private String turnsTo = null;
    private int turnOver = 0;
    private One passing = null;
    private int passingOver = 0;
    private int turnsBegun = 0;
    private int minute = 0;
    long waits = 0;

    ToldDay(ToldTexts.River river, List<ToldTexts.Rule> rules, int seed) {
        this.river = river;
        this.rules = rules;
        draws = seed;
        come(river.ships, ships, seed >= 0);
        come(river.carts, carts, seed >= 0);
        while (!isOver()) {
            strikeSails();
            if (turnsTo == null && passing == null) {
                obey();
            }
            if (turnsTo == null && passing == null) {
                beginNext();
            }
            minute++;
        }
    }

    int[] told() {
        int struck = count(ships, "struck");
        return new int[] {struck, turnsBegun, minute, count(ships, "there") + count(carts, "there"), count(ships, "past")};
    }

    private static int count(List<One> row, String now) {
        return (int) row.stream().filter(one -> one.now.equals(now)).count();
    }

    private void come(List<Told.Passer> all, List<One> row, boolean later) {
        for (Told.Passer who : all) {
            int minutes = 0;
            if (later) {
                draws = (draws * 2749 + 12553) % 65536;
                minutes = draws / 8 % 8;
            }
            One one = new One();
            one.who = new Told.Passer(who.number(), who.port(), who.at() + minutes, who.takes(), who.costs(), who.sail());
            row.add(one);
        }
        // As they come; the sort keeps those of one minute in their order.
        row.sort((a, b) -> a.who.at() - b.who.at());
    }

    private boolean isOver() {
        if (turnsTo != null && turnOver == minute) {
            bridge = turnsTo;
            turnsTo = null;
            sinceMinute = minute;
        }
        if (passing != null && passingOver == minute) {
            passing.now = "past";
            passing = null;
        }
        int gone = count(ships, "past") + count(ships, "struck") + count(carts, "past");
        return minute == 301 || gone == ships.size() + carts.size();
    }

    private void strikeSails() {
        boolean aheadIsThere = false;
        for (One one : ships) {
            if (one.now.equals("there") && one.who.sail() && one.who.at() == minute
                    && (turnsTo != null || !bridge.equals("open") || passing != null || aheadIsThere)) {
                one.now = "struck";
            }
            aheadIsThere |= one.now.equals("there");
        }
    }

    private void obey() {
        for (ToldTexts.Rule rule : rules) {
            if (rule.either().holds(this::fact)) {
                if (!rule.act().equals("rest") && !rule.act().equals(bridge)) {
                    beginTurn(rule.act());
                }
                return;
            }
        }
    }

    private void beginTurn(String to) {
        turnsTo = to;
        turnOver = minute + river.turns + (minute >= river.frostFrom ? river.frost : 0);
        turnsBegun++;
        for (One one : ships) {
            if (one.now.equals("there") && one.who.sail() && one.who.at() == minute) {
                one.now = "struck";
            }
        }
    }

    private int fact(String name) {
        switch (name) {
            case "open": case "shut": return bridge.equals(name) ? 1 : 0;
            case "ships": return waiting(ships);
            case "carts": return waiting(carts);
            case "minute": return minute;
            case "turned": return minute - sinceMinute;
            default: return ships.stream().mapToInt(one -> one.who.at() - minute).filter(in -> in > 0).min().orElse(300);
        }
    }

    private int waiting(List<One> row) {
        return (int) row.stream().filter(one -> one.now.equals("there") && one.who.at() <= minute).count();
    }

    private void beginNext() {
        for (One one : bridge.equals("open") ? ships : carts) {
            if (one.now.equals("there")) {
                if (one.who.at() <= minute) {
                    one.now = "passing";
                    passing = one;
                    passingOver = minute + one.who.takes();
                    waits += (long) (minute - one.who.at()) * one.who.costs();
                }
                return;
            }
        }
    }
}
