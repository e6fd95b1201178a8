import java.util.ArrayList;
import java.util.Arrays;
import java.util.Comparator;
import java.util.HashMap;
import java.util.List;
import java.util.Map;
import java.util.TreeSet;

/**
 * The document's words once more, in their plainest and slowest form, call by call: sets of BEATS, words as texts, all
 * rows of calls, all minutes. It shares no code with the class.
 */
final class Told {
    private static final int NEVER = 1_000_000_000;

    /** A call that is not answered, and its STATUS. */
    private static final class Refused extends RuntimeException {
        private final int status;

        private Refused(int status) {
            super(null, null, false, false);
            this.status = status;
        }
    }

    /** A SHIP or a CART (its port is -1). */
    record Passer(int number, int port, int at, int takes, int costs, boolean sail) {
        private Passer comingLater(int minutes) {
            return new Passer(number, port, at + minutes, takes, costs, sail);
        }
    }

    /** What is done by a PLAN: 0 a SHIP, 1 a CART, 2 a turn (who is null). */
    record Act(int what, int minute, Passer who, int over) { }

    record Reading(int first, int second, int beats) { }

    private record Mark(ToldTexts.River river, List<ToldTexts.Rule> rules) { }

    private int status = 0;
    private long top = 0;
    private long bottom = 1;
    private final long[][] trays = new long[4][];
    private final int[] sorts = new int[4];
    private final List<Integer> tape = new ArrayList<>();
    private ToldTexts.River river = new ToldTexts.River();
    private List<ToldTexts.Rule> rules = null;
    private int fault = -1;
    private int faultPlace = -1;
    private List<Reading> readings = List.of();
    private List<String> code = List.of();
    private List<Act> plan = List.of();
    private int[] day = null;
    private final List<Mark> marks = new ArrayList<>();

    int portsNow() {
        return river.ports.size();
    }

    int shipsNow() {
        return river.ships.size();
    }

    int cartsNow() {
        return river.carts.size();
    }

    int statusNow() {
        return status;
    }

    /** What a call answers, a boolean as 1 or 0. */
    long call(String name, long... a) {
        try {
            boolean hasNoStatus = List.of("status", "top", "bottom", "feed", "fault").contains(name);
            int before = status;
            long answer = answer(name, a);
            status = hasNoStatus ? before : 0;
            return answer;
        } catch (Refused refused) {
            status = refused.status;
            return List.of("tray", "write", "pour", "doubt", "odds").contains(name) ? 0 : -1;
        }
    }

    private static void need(boolean holds, int otherwise) {
        if (!holds) {
            throw new Refused(otherwise);
        }
    }

    private static void within(long n, long least, long most) {
        need(n >= least && n <= most, 1);
    }

    private long answer(String name, long[] a) {
        switch (name) {
            case "status": return status;
            case "top": return top;
            case "bottom": return bottom;
            case "tray": case "write": case "read": case "pour": return answerOfTrays(name, a);
            case "feed": return feed(a);
            case "river": return river(a[0]);
            case "rules": return rules(a[0]);
            case "fault": return a[0] == 0 ? fault : a[0] == 1 ? faultPlace : -1;
            case "told": case "ship": case "cart": case "nextShip": case "nextCart": return answerOfTexts(name, a);
            case "keep": case "kept": case "odds": case "waits": return answerOfRules(name, a);
            case "mark": return mark();
            case "back": return back();
            default: break;
        }
        boolean ofWaits = List.of("least", "plan", "planAt", "worth", "quicker", "away", "later", "slack", "without",
                "dearest", "opened", "busiest").contains(name);
        return ofWaits ? answerOfWaits(name, a) : answerOfCalls(name, a);
    }

    // ---- TRAYS

    private long answerOfTrays(String name, long[] a) {
        within(a[0], 0, 3);
        if (name.equals("tray")) {
            within(a[1], 0, 3);
            within(a[2], 0, 60);
            sorts[(int) a[0]] = (int) a[1];
            trays[(int) a[0]] = new long[(int) a[2]];
            return 1;
        }
        if (name.equals("pour")) {
            return pour(a);
        }
        long[] tray = trays[(int) a[0]];
        need(tray != null, 2);
        need(a[1] >= 0 && a[1] < tray.length, 3);
        if (name.equals("read")) {
            return tray[(int) a[1]];
        }
        // Cut to 8, 16, 32 or 64 bits, the highest of which is the sign.
        int away = 64 - (8 << sorts[(int) a[0]]);
        tray[(int) a[1]] = a[2] << away >> away;
        return 1;
    }

    private long pour(long[] a) {
        within(a[2], 0, 3);
        need(a[1] >= 0 && a[3] >= 0 && a[4] >= 0, 1);
        long[] from = trays[(int) a[0]];
        long[] to = trays[(int) a[2]];
        need(from != null && to != null, 2);
        need(sorts[(int) a[0]] == sorts[(int) a[2]], 8);
        need(a[1] + a[4] <= from.length && a[3] + a[4] <= to.length, 3);
        long[] asTheyWere = from.clone();
        for (int k = 0; k < a[4]; k++) {
            to[(int) a[3] + k] = asTheyWere[(int) a[1] + k];
        }
        return 1;
    }

    // ---- texts

    private long feed(long[] a) {
        if (tape.size() + 20 > 900) {
            return -1;
        }
        for (long four : a) {
            for (int shift = 24; shift >= 0; shift -= 8) {
                tape.add((int) (four >> shift & 255));
            }
        }
        return tape.size();
    }

    private ToldTexts textOf(long n, int most) {
        need(n >= 0 && n <= tape.size() && n <= most, 1);
        StringBuilder text = new StringBuilder();
        for (int k = 0; k < n; k++) {
            text.append((char) (int) tape.get(k));
        }
        tape.clear();
        return new ToldTexts(text.toString());
    }

    private long river(long n) {
        ToldTexts text = textOf(n, 900);
        ToldTexts.River read = text.river();
        end(text);
        river = read;
        rules = null;
        return river.ships.size();
    }

    private long rules(long n) {
        ToldTexts text = textOf(n, 300);
        List<ToldTexts.Rule> read = text.rules();
        end(text);
        rules = read;
        return rules.size();
    }

    private void end(ToldTexts text) {
        fault = text.fault;
        faultPlace = text.faultPlace;
        need(fault == 0, 9);
    }

    private long answerOfTexts(String name, long[] a) {
        switch (name) {
            case "told":
                within(a[0], 0, 7);
                return new int[] {portsNow(), shipsNow(), cartsNow(), rules == null ? 0 : rules.size(), river.turns,
                    river.frost, river.frostFrom, river.echo}[(int) a[0]];
            case "ship":
                Passer ship = ship(a[0]);
                within(a[1], 0, 4);
                return new int[] {ship.port, ship.at, ship.takes, ship.costs, ship.sail ? 1 : 0}[(int) a[1]];
            case "cart":
                within(a[0], 0, cartsNow() - 1);
                within(a[1], 0, 2);
                Passer cart = river.carts.get((int) a[0]);
                return new int[] {cart.at, cart.takes, cart.costs}[(int) a[1]];
            default:
                List<Passer> row = asTheyCome(name.equals("nextShip") ? river.ships : river.carts);
                need(a[0] >= 0 && a[0] < row.size(), 6);
                return row.get((int) a[0]).number;
        }
    }

    private Passer ship(long number) {
        within(number, 0, shipsNow() - 1);
        return river.ships.get((int) number);
    }

    private static List<Passer> asTheyCome(List<Passer> all) {
        List<Passer> row = new ArrayList<>(all);
        row.sort(Comparator.comparingInt(Passer::at).thenComparingInt(Passer::number));
        return row;
    }

    // ---- calls

    private long answerOfCalls(String name, long[] a) {
        switch (name) {
            case "sound": return number(heard(blasts(a[0]), 0));
            case "heard": return number(heard(blasts(a[0]), river.echo));
            case "lasts": return heard(blasts(a[0]), river.echo).last() + 1;
            case "together": return number(togetherOrRefused(a));
            case "far": return far(a[0], a[1]);
            case "readings":
                need(a[0] >= 1, 1);
                readings = readingsOf(a[0]);
                return readings.size();
            case "reading": return reading(a[0], a[1]);
            case "doubt": return doubt(a[0], a[1]);
            case "alike": return alike(river.echo);
            case "code": return code(a[0], a[1], a[2]);
            case "codeAt": return codeAt(a[0]);
            case "parts": return parts(a[0]);
            case "clearBeats": return clearBeats(a[0], a[1]);
            case "clearEcho": return clearEcho();
            case "silent": return silent();
            default: throw new IllegalStateException(name);
        }
    }

    private String blasts(long port) {
        within(port, 0, portsNow() - 1);
        return river.ports.get((int) port);
    }

    private static TreeSet<Integer> heard(String blasts, int echo) {
        TreeSet<Integer> beats = new TreeSet<>();
        int beat = 0;
        for (char blast : blasts.toCharArray()) {
            for (int k = blast == 'l' ? 3 : 1; k > 0; k--) {
                beats.add(beat);
                beats.add(beat + echo);
                beat++;
            }
            beat++;
        }
        return beats;
    }

    private static long number(Iterable<Integer> beats) {
        long number = 0;
        for (int beat : beats) {
            number += 1L << beat;
        }
        return number;
    }

    private TreeSet<Integer> together(long a, long b, int later) {
        TreeSet<Integer> beats = heard(blasts(a), river.echo);
        for (int beat : heard(blasts(b), river.echo)) {
            beats.add(beat + later);
        }
        return beats;
    }

    private TreeSet<Integer> togetherOrRefused(long[] a) {
        within(a[2], 0, 12);
        return together(a[0], a[1], (int) a[2]);
    }

    private long far(long a, long b) {
        TreeSet<Integer> first = heard(blasts(a), river.echo);
        TreeSet<Integer> second = heard(blasts(b), river.echo);
        return together(a, b, 0).stream().filter(beat -> first.contains(beat) != second.contains(beat)).count();
    }

    private List<Reading> readingsOf(long sound) {
        List<Reading> found = new ArrayList<>();
        for (int port = 0; port < portsNow(); port++) {
            if (number(heard(blasts(port), river.echo)) == sound) {
                found.add(new Reading(port, 6, -1));
            }
        }
        for (int a = 0; a < portsNow(); a++) {
            for (int b = 0; b < portsNow(); b++) {
                for (int beats = 0; beats <= 12; beats++) {
                    if ((beats > 0 || a <= b) && number(together(a, b, beats)) == sound) {
                        found.add(new Reading(a, b, beats));
                    }
                }
            }
        }
        return found;
    }

    private long reading(long k, long what) {
        within(what, 0, 2);
        need(k >= 0 && k < readings.size(), 6);
        Reading one = readings.get((int) k);
        need(what == 0 || one.beats >= 0, 6);
        return what == 0 ? one.first : what == 1 ? one.second : one.beats;
    }

    private long doubt(long sound, long port) {
        need(sound >= 1, 1);
        within(port, 0, portsNow() - 1);
        List<Reading> all = readingsOf(sound);
        need(!all.isEmpty(), 6);
        long itIsIn = all.stream().filter(one -> one.first == port || one.second == port).count();
        return tell(itIsIn, all.size());
    }

    private long tell(long part, long whole) {
        top = part;
        bottom = whole;
        for (long divisor = whole; divisor > 1; divisor--) {
            if (top % divisor == 0 && bottom % divisor == 0) {
                top /= divisor;
                bottom /= divisor;
            }
        }
        return 1;
    }

    private long alike(int echo) {
        int couples = 0;
        for (int b = 0; b < portsNow(); b++) {
            for (int a = 0; a < b; a++) {
                couples += heard(blasts(a), echo).equals(heard(blasts(b), echo)) ? 1 : 0;
            }
        }
        return couples;
    }

    private long code(long many, long blasts, long echo) {
        within(many, 1, 4);
        within(blasts, 1, 4);
        within(echo, 0, 9);
        List<String> words = new ArrayList<>(List.of(""));
        for (int k = 0; words.get(k).length() < blasts; k++) {
            words.add(words.get(k) + "l");
            words.add(words.get(k) + "s");
        }
        words.remove(0);
        List<String> row = firstRow(List.of(), words, (int) many, (int) echo);
        need(row != null, 6);
        code = row;
        return String.join("", row).length();
    }

    private static List<String> firstRow(List<String> row, List<String> words, int many, int echo) {
        if (row.size() == many) {
            return isCode(row, echo) ? row : null;
        }
        for (int k = 0; k < words.size(); k++) {
            List<String> longer = new ArrayList<>(row);
            longer.add(words.get(k));
            List<String> found = firstRow(longer, words.subList(k + 1, words.size()), many, echo);
            if (found != null) {
                return found;
            }
        }
        return null;
    }

    private static boolean isCode(List<String> row, int echo) {
        for (String a : row) {
            for (String b : row) {
                TreeSet<Integer> both = heard(a, echo);
                if (!a.equals(b) && both.equals(heard(b, echo))) {
                    return false;
                }
                both.addAll(heard(b, echo));
                for (String c : row) {
                    if (!a.equals(b) && !a.equals(c) && !b.equals(c) && both.equals(heard(c, echo))) {
                        return false;
                    }
                }
            }
        }
        return true;
    }

    private long codeAt(long k) {
        need(k >= 0 && k < code.size(), 6);
        long letters = 0;
        for (char letter : code.get((int) k).toCharArray()) {
            letters = letters * 32 + (letter - 'a' + 1);
        }
        return letters;
    }

    private long parts(long sound) {
        need(sound >= 1, 1);
        long set = 0;
        for (int port = 0; port < portsNow(); port++) {
            boolean within = heard(blasts(port), river.echo).stream().allMatch(beat -> (sound >> beat & 1) == 1);
            set += within ? 1L << port : 0;
        }
        return set;
    }

    private long clearBeats(long a, long b) {
        within(a, 0, portsNow() - 1);
        within(b, 0, portsNow() - 1);
        for (int beats = 0; beats <= 12; beats++) {
            if (readingsOf(number(together(a, b, beats))).size() == 1) {
                return beats;
            }
        }
        throw new Refused(6);
    }

    private long clearEcho() {
        for (int echo = 0; echo <= 9; echo++) {
            if (alike(echo) == 0) {
                return echo;
            }
        }
        throw new Refused(6);
    }

    private long silent() {
        TreeSet<Integer> any = new TreeSet<>();
        for (String blasts : river.ports) {
            any.addAll(heard(blasts, river.echo));
        }
        int beat = 0;
        while (any.contains(beat)) {
            beat++;
        }
        return beat;
    }

    // ---- the least waits

    /** All minutes, looked at as far as they are asked for. */
    private static final class Minutes {
        private final List<Passer> ships;
        private final List<Passer> carts;
        private final int turns;
        private final int frost;
        private final int frostFrom;
        private final Map<Integer, Integer> known = new HashMap<>();

        private Minutes(ToldTexts.River river, List<Passer> ships, List<Passer> carts, int turns) {
            this.ships = asTheyCome(ships);
            this.carts = asTheyCome(carts);
            this.turns = turns;
            frost = river.frost;
            frostFrom = river.frostFrom;
        }

        private int least() {
            return fromHere(0, 0, 0, 0);
        }

        private int turnOver(int minute) {
            return minute + turns + (minute >= frostFrom ? frost : 0);
        }

        /** The WAITS that are still to come, by the state of a minute. */
        private int fromHere(int minute, int open, int shipsGone, int cartsGone) {
            if (shipsGone == ships.size() && cartsGone == carts.size()) {
                return 0;
            }
            if (minute > 240) {
                return NEVER;
            }
            int key = ((minute * 2 + open) * 7 + shipsGone) * 7 + cartsGone;
            Integer value = known.get(key);
            if (value == null) {
                value = Math.min(beginning(minute, open, shipsGone, cartsGone),
                        Math.min(fromHere(minute + 1, open, shipsGone, cartsGone),
                                fromHere(turnOver(minute), 1 - open, shipsGone, cartsGone)));
                known.put(key, value);
            }
            return value;
        }

        private Passer next(int open, int shipsGone, int cartsGone) {
            List<Passer> row = open == 1 ? ships : carts;
            int gone = open == 1 ? shipsGone : cartsGone;
            return gone < row.size() ? row.get(gone) : null;
        }

        private int beginning(int minute, int open, int shipsGone, int cartsGone) {
            Passer who = next(open, shipsGone, cartsGone);
            if (who == null || who.at > minute || minute > 240 || who.sail && who.at < minute) {
                return NEVER;
            }
            int then = fromHere(minute + who.takes, open, shipsGone + open, cartsGone + 1 - open);
            return then == NEVER ? NEVER : then + (minute - who.at) * who.costs;
        }

        private List<Act> plan() {
            List<Act> acts = new ArrayList<>();
            int minute = 0;
            int open = 0;
            int shipsGone = 0;
            int cartsGone = 0;
            while (shipsGone < ships.size() || cartsGone < carts.size()) {
                int due = fromHere(minute, open, shipsGone, cartsGone);
                if (beginning(minute, open, shipsGone, cartsGone) == due) {
                    Passer who = next(open, shipsGone, cartsGone);
                    acts.add(new Act(1 - open, minute, who, minute + who.takes));
                    minute += who.takes;
                    shipsGone += open;
                    cartsGone += 1 - open;
                } else if (fromHere(minute + 1, open, shipsGone, cartsGone) == due) {
                    minute++;
                } else {
                    acts.add(new Act(2, minute, null, turnOver(minute)));
                    minute = turnOver(minute);
                    open = 1 - open;
                }
            }
            return acts;
        }
    }

    private long leastOf(List<Passer> ships, List<Passer> carts, int turns) {
        int least = new Minutes(river, ships, carts, turns).least();
        need(least < NEVER, 6);
        return least;
    }

    private long leastOf(List<Passer> ships) {
        return leastOf(ships, river.carts, river.turns);
    }

    private static List<Passer> without(List<Passer> all, long number) {
        return all.stream().filter(one -> one.number != number).toList();
    }

    private List<Passer> withLater(long ship, int minutes) {
        return river.ships.stream().map(one -> one.number == ship ? one.comingLater(minutes) : one).toList();
    }

    private List<Act> planOrRefused() {
        Minutes minutes = new Minutes(river, river.ships, river.carts, river.turns);
        need(minutes.least() < NEVER, 6);
        return minutes.plan();
    }

    private long answerOfWaits(String name, long[] a) {
        switch (name) {
            case "least": return leastOf(river.ships);
            case "plan":
                plan = planOrRefused();
                return plan.size();
            case "planAt": return planAt(a[0], a[1]);
            case "worth":
                ship(a[0]);
                return leastOf(river.ships) - leastOf(without(river.ships, a[0]));
            case "quicker":
                within(a[0], 1, 20);
                return leastOf(river.ships, river.carts, (int) a[0]);
            case "away": return away();
            case "later":
                ship(a[0]);
                within(a[1], 0, 60);
                return leastOf(withLater(a[0], (int) a[1]));
            case "slack": return slack(a[0]);
            case "without":
                within(a[0], 0, cartsNow() - 1);
                return leastOf(river.ships, without(river.carts, a[0]), river.turns);
            case "dearest": return dearest();
            case "opened": return opened();
            case "busiest": return busiest();
            default: throw new IllegalStateException(name);
        }
    }

    private long planAt(long k, long what) {
        within(what, 0, 2);
        need(k >= 0 && k < plan.size(), 6);
        Act act = plan.get((int) k);
        need(what < 2 || act.who != null, 6);
        return what == 0 ? act.what : what == 1 ? act.minute : act.who.number;
    }

    private long away() {
        int best = -1;
        for (int set = 0; set < 1 << shipsNow(); set++) {
            int sent = set;
            List<Passer> others = river.ships.stream().filter(one -> (sent >> one.number & 1) == 0).toList();
            boolean fewer = best < 0 || Integer.bitCount(set) < Integer.bitCount(best);
            if (fewer && new Minutes(river, others, river.carts, river.turns).least() < NEVER) {
                best = set;
            }
        }
        need(best >= 0, 6);
        return best;
    }

    private long slack(long ship) {
        ship(ship);
        long asItIs = leastOf(river.ships);
        long most = 0;
        for (int minutes = 0; minutes <= 60; minutes++) {
            if (new Minutes(river, withLater(ship, minutes), river.carts, river.turns).least() <= asItIs) {
                most = minutes;
            }
        }
        return most;
    }

    private long dearest() {
        long[] waits = new long[12];
        for (Act act : planOrRefused()) {
            if (act.what < 2) {
                waits[act.who.number + 6 * act.what] = (long) (act.minute - act.who.at) * act.who.costs;
            }
        }
        long most = Arrays.stream(waits).max().getAsLong();
        need(most > 0, 6);
        int first = 0;
        while (waits[first] < most) {
            first++;
        }
        return first;
    }

    /** By minutes: in each of them it is OPEN, or it is not. */
    private long opened() {
        List<Act> acts = planOrRefused();
        int end = acts.isEmpty() ? 0 : acts.get(acts.size() - 1).over;
        long opened = 0;
        for (int minute = 0; minute < end; minute++) {
            boolean open = false;
            boolean turning = false;
            for (Act act : acts) {
                if (act.what == 2 && act.minute <= minute) {
                    open = !open;
                    turning = act.over > minute;
                }
            }
            opened += open && !turning ? 1 : 0;
        }
        return opened;
    }

    private long busiest() {
        List<Act> acts = planOrRefused();
        long most = 0;
        int busiest = -1;
        for (int minute = 0; minute <= 240; minute++) {
            int now = minute;
            long wait = acts.stream().filter(act -> act.what < 2 && act.who.at <= now && act.minute > now).count();
            if (wait > most) {
                most = wait;
                busiest = minute;
            }
        }
        need(busiest >= 0, 6);
        return busiest;
    }

    // ---- RULES

    private long answerOfRules(String name, long[] a) {
        if (name.equals("kept")) {
            within(a[0], 0, 4);
            need(day != null, 6);
            return day[(int) a[0]];
        }
        if (name.equals("keep")) {
            within(a[0], -1, 9999);
            need(rules != null, 6);
            ToldDay kept = new ToldDay(river, rules, (int) a[0]);
            day = kept.told();
            return kept.waits;
        }
        within(a[0], 0, 9999);
        within(a[1], 1, 20);
        within(a[0] + a[1] - 1, 0, 9999);
        need(rules != null, 6);
        long waits = 0;
        long good = 0;
        for (int k = 0; k < a[1]; k++) {
            ToldDay kept = new ToldDay(river, rules, (int) a[0] + k);
            waits += kept.waits;
            good += kept.told()[0] + kept.told()[3] == 0 ? 1 : 0;
        }
        return name.equals("waits") ? waits : tell(good, a[1]);
    }

    // ---- MARKS

    private long mark() {
        need(marks.size() < 3, 4);
        marks.add(new Mark(river, rules));
        return marks.size();
    }

    private long back() {
        need(!marks.isEmpty(), 6);
        Mark latest = marks.remove(marks.size() - 1);
        river = latest.river;
        rules = latest.rules;
        return marks.size();
    }
}
