import java.util.List;
import java.util.Random;

/** Promises 33 to 44: by hand, then drawn RIVERS minute by minute. */
public final class WaitsTest {
    private static final Due due = new Due();

    public static void main(String[] args) {
        nobody();
        oneShip();
        restsAsLongAsItCan();
        preferences();
        lastMinute();
        sails();
        frost();
        slackStays();
        noSlack();
        planStays();
        wrongInputs();
        Random random = new Random(11);
        int hopeless = 0;
        for (int i = 0; i < 1500; i++) {
            hopeless += drawn(Model.drawn(random), random) ? 0 : 1;
        }
        System.out.println("of 1500 drawn, not all can pass in " + hopeless);
        due.end("WaitsTest");
    }

    private static void nobody() {
        HornBridge x = new HornBridge();
        due.fine(x, "least", x.least(), 0);
        due.fine(x, "plan", x.plan(), 0);
        due.fine(x, "away", x.away(), 0);
        due.fine(x, "quicker", x.quicker(1), 0);
        due.fine(x, "opened", x.opened(), 0);
        due.none(x, "dearest", x.dearest(), 6);
        due.none(x, "busiest", x.busiest(), 6);
    }

    private static void oneShip() {
        HornBridge x = Due.at("port p calls l;turns 3;ship a of p at 1 takes 4 costs 5;");
        due.fine(x, "least", x.least(), 10);
        due.acts(x, new int[] {2, 0}, new int[] {0, 3, 0});
        due.fine(x, "worth", x.worth(0), 10);
        due.fine(x, "quicker", x.quicker(1), 0);
        due.fine(x, "quicker", x.quicker(20), 95);
        due.fine(x, "later by 1", x.later(0, 1), 5);
        due.fine(x, "later by 60", x.later(0, 60), 0);
        due.fine(x, "slack", x.slack(0), 60);
        due.fine(x, "dearest", x.dearest(), 0);
        due.fine(x, "opened", x.opened(), 4);
        due.fine(x, "busiest", x.busiest(), 1);
        due.fine(x, "away", x.away(), 0);
    }

    private static void restsAsLongAsItCan() {
        HornBridge x = Due.at("port p calls l;turns 3;ship a of p at 1 takes 20 costs 0;");
        due.fine(x, "least", x.least(), 0);
        due.acts(x, new int[] {2, 237}, new int[] {0, 240, 0});
        due.fine(x, "opened to when all have passed", x.opened(), 20);
        due.none(x, "dearest: nothing is above 0", x.dearest(), 6);
        due.fine(x, "busiest", x.busiest(), 1);
    }

    private static void preferences() {
        HornBridge x = Due.at("port p calls l;turns 2;ship a of p at 0 takes 1 costs 1;cart b at 0 takes 1 costs 1;");
        due.fine(x, "least", x.least(), 3);
        due.acts(x, new int[] {1, 0, 0}, new int[] {2, 1}, new int[] {0, 3, 0});
        due.fine(x, "without", x.without(0), 2);
        due.fine(x, "busiest", x.busiest(), 0);
        HornBridge y = Due.at("port p calls l;turns 2;ship a of p at 0 takes 1 costs 0;ship b of p at 0 takes 1 costs 3;"
                + "cart c at 4 takes 1 costs 1;cart d at 0 takes 1 costs 6;");
        due.fine(y, "dearest: the first SHIP ahead of the first CART", y.dearest(), 1);
        HornBridge z = Due.at("port p calls l;turns 1;cart c at 0 takes 4 costs 0;cart d at 1 takes 1 costs 2;"
                + "cart e at 2 takes 1 costs 2;");
        due.fine(z, "dearest: of several carts the first", z.dearest(), 7);
        due.fine(z, "busiest", z.busiest(), 2);
    }

    private static void lastMinute() {
        StringBuilder text = new StringBuilder("port p calls l;turns 20;frost 20 from 0;");
        for (int i = 0; i < 6; i++) {
            text.append("ship s").append((char) ('a' + i)).append(" of p at 120 takes 20 costs 1;");
        }
        HornBridge x = Due.at(text.toString());
        due.fine(x, "six ships: the last begins in minute 220", x.least(), 300);
        HornBridge y = Due.at(text + "cart c at 99 takes 1 costs 0;");
        due.fine(y, "the last begins in minute 240", y.least(), 420);
        HornBridge w = Due.at(text + "cart c at 100 takes 1 costs 0;");
        due.none(w, "the last would begin in minute 241", w.least(), 6);
        HornBridge z = Due.at(text + "cart c at 120 takes 20 costs 0;cart d at 120 takes 20 costs 0;");
        due.none(z, "one can't pass", z.least(), 6);
        due.none(z, "plan", z.plan(), 6);
        due.none(z, "worth", z.worth(0), 6);
        due.none(z, "slack", z.slack(0), 6);
        due.none(z, "dearest", z.dearest(), 6);
        due.none(z, "opened", z.opened(), 6);
        due.none(z, "busiest", z.busiest(), 6);
        due.none(z, "quicker", z.quicker(20), 6);
        due.none(z, "later", z.later(0, 0), 6);
        due.fine(z, "away: the least set of three", z.away(), 7);
    }

    private static void sails() {
        HornBridge x = Due.at("port p calls l;turns 3;ship a of p at 2 takes 4 costs 5 sail;");
        due.none(x, "the bridge can't be open by then", x.least(), 6);
        due.fine(x, "quicker", x.quicker(2), 0);
        due.fine(x, "later", x.later(0, 1), 0);
        due.fine(x, "away", x.away(), 1);
        HornBridge y = Due.at("port p calls l;turns 3;ship a of p at 9 takes 4 costs 5 sail;ship b of p at 9 takes 1 costs 0;"
                + "ship c of p at 12 takes 1 costs 0 sail;");
        due.none(y, "one passes when a sail comes", y.least(), 6);
        due.fine(y, "away: of several the least", y.away(), 1);
    }

    private static void frost() {
        HornBridge x = Due.at("port p calls l;turns 3;frost 7 from 1;ship a of p at 10 takes 1 costs 1;"
                + "cart b at 0 takes 1 costs 1;");
        due.fine(x, "a turn begun in minute 1 takes 10", x.least(), 1);
        due.acts(x, new int[] {1, 0, 0}, new int[] {2, 1}, new int[] {0, 11, 0});
        due.fine(x, "frost in so many more as told", x.quicker(1), 0);
        HornBridge y = Due.at("port p calls l;turns 3;frost 7 from 1;ship a of p at 10 takes 1 costs 1;");
        due.acts(y, new int[] {2, 0}, new int[] {0, 10, 0});
    }

    private static void slackStays() {
        HornBridge x = Due.at("port p calls l;turns 3;ship a of p at 8 takes 4 costs 5;cart b at 12 takes 1 costs 9;");
        due.fine(x, "least", x.least(), x.later(0, 0));
        int least = x.least();
        int slack = x.slack(0);
        due.is("within slack", x.later(0, slack) <= least, true);
        for (int minutes = slack + 1; minutes <= 60; minutes++) {
            due.is("behind slack", x.later(0, minutes) > least, true);
        }
    }

    /** SAILS all the way: wherever the first comes later, another passes. */
    private static void noSlack() {
        HornBridge x = Due.at("port p calls l;turns 5;ship a of p at 5 takes 20 costs 0 sail;ship b of p at 25 takes 20 costs 0 sail;"
                + "ship c of p at 45 takes 20 costs 0 sail;ship d of p at 65 takes 20 costs 0 sail;");
        due.fine(x, "least", x.least(), 0);
        due.fine(x, "slack of the first", x.slack(0), 0);
        due.fine(x, "slack of the last", x.slack(3), 60);
        HornBridge y = Due.at("port p calls l;turns 5;ship a of p at 6 takes 20 costs 0 sail;ship b of p at 27 takes 20 costs 0 sail;"
                + "ship c of p at 47 takes 20 costs 0 sail;ship d of p at 67 takes 20 costs 0 sail;");
        due.fine(y, "slack of 1", y.slack(0), 1);
    }

    private static void planStays() {
        HornBridge x = Due.at("port p calls l;turns 3;ship a of p at 1 takes 4 costs 5;");
        x.plan();
        Due.river(x, "turns 4;port p calls l;ship a of p at 0 takes 1 costs 1 sail;");
        due.none(x, "no plan", x.plan(), 6);
        due.none(x, "opened", x.opened(), 6);
        due.fine(x, "the plan ahead", x.planAt(1, 1), 3);
        Due.river(x, "port p calls l;cart c at 1 takes 1 costs 1;cart a at 1 takes 1 costs 1;");
        due.fine(x, "dearest lays a plan of its own", x.dearest(), 7);
        due.fine(x, "busiest, too", x.busiest(), 1);
        due.fine(x, "opened, too", x.opened(), 0);
        due.fine(x, "the plan ahead", x.planAt(1, 1), 3);
        due.fine(x, "plan", x.plan(), 2);
        due.fine(x, "the new plan", x.planAt(1, 1), 2);
    }

    private static void wrongInputs() {
        HornBridge x = Due.at("port p calls l;ship a of p at 2 takes 4 costs 5;cart c at 1 takes 1 costs 1;");
        int[] wrong = {-1, 1, Integer.MIN_VALUE, Integer.MAX_VALUE};
        for (int who : wrong) {
            due.none(x, "worth", x.worth(who), 1);
            due.none(x, "later", x.later(who, 0), 1);
            due.none(x, "slack", x.slack(who), 1);
            due.none(x, "without", x.without(who), 1);
        }
        due.none(x, "later", x.later(0, -1), 1);
        due.none(x, "later", x.later(0, 61), 1);
        due.none(x, "quicker", x.quicker(0), 1);
        due.none(x, "quicker", x.quicker(21), 1);
        due.none(x, "planAt", x.planAt(0, 3), 1);
        due.none(x, "planAt", x.planAt(-5, -1), 1);
        due.none(x, "planAt", x.planAt(0, 0), 6);
    }

    // ---- drawn

    private static void waits(HornBridge x, String call, int got, int want) {
        boolean hopeless = want >= Model.HOPELESS;
        due.is(call, got, hopeless ? -1 : want);
        due.is(call + " STATUS", x.status(), hopeless ? 6 : 0);
    }

    private static boolean drawn(Model model, Random random) {
        HornBridge x = Due.at(model.text());
        int least = model.copy().least();
        waits(x, "least", x.least(), least);
        for (int ship = 0; ship < model.ships.size(); ship++) {
            Model other = model.copy();
            other.ships.remove(ship);
            waits(x, "worth", x.worth(ship), least >= Model.HOPELESS ? least : least - other.least());
            int minutes = random.nextInt(61);
            other = model.copy();
            other.ships.get(ship)[1] += minutes;
            waits(x, "later", x.later(ship, minutes), other.least());
        }
        for (int cart = 0; cart < model.carts.size(); cart++) {
            Model other = model.copy();
            other.carts.remove(cart);
            waits(x, "without", x.without(cart), other.least());
        }
        Model quicker = model.copy();
        quicker.turns = 1 + random.nextInt(20);
        waits(x, "quicker", x.quicker(quicker.turns), quicker.least());
        if (random.nextInt(10) == 0) {
            due.fine(x, "away", x.away(), away(model));
            if (!model.ships.isEmpty()) {
                int ship = random.nextInt(model.ships.size());
                waits(x, "slack", x.slack(ship), least >= Model.HOPELESS ? least : slack(model, ship, least));
            }
        }
        if (least >= Model.HOPELESS) {
            due.none(x, "plan", x.plan(), 6);
            return false;
        }
        byPlan(x, model);
        return true;
    }

    private static int away(Model model) {
        int best = -1;
        for (int set = (1 << model.ships.size()) - 1; set >= 0; set--) {
            Model other = model.copy();
            final int gone = set;
            other.ships.removeIf(ship -> (gone >> ship[0] & 1) == 1);
            if ((best == -1 || Integer.bitCount(set) <= Integer.bitCount(best)) && other.least() < Model.HOPELESS) {
                best = set;
            }
        }
        return best;
    }

    private static int slack(Model model, int ship, int least) {
        int slack = -1;
        for (int minutes = 0; minutes <= 60; minutes++) {
            Model other = model.copy();
            other.ships.get(ship)[1] += minutes;
            slack = other.least() <= least ? minutes : slack;
        }
        return slack;
    }

    private static void byPlan(HornBridge x, Model model) {
        List<int[]> acts = model.copy().plan();
        due.fine(x, "plan", x.plan(), acts.size());
        int[] begins = new int[12];
        int opened = 0;
        int openFrom = -1;
        int end = 0;
        for (int k = 0; k < acts.size(); k++) {
            int[] act = acts.get(k);
            due.is("act", x.planAt(k, 0), act[0]);
            due.is("minute", x.planAt(k, 1), act[1]);
            due.is("who", x.planAt(k, 2), act[2]);
            if (act[0] == 2) {
                opened += openFrom >= 0 ? act[1] - openFrom : 0;
                openFrom = openFrom >= 0 ? -1 : act[3];
            } else {
                begins[act[0] * 6 + act[2]] = act[1];
                end = act[3];
            }
        }
        due.fine(x, "opened", x.opened(), openFrom >= 0 ? opened + end - openFrom : opened);
        int dearest = -1;
        int most = 0;
        int busiest = -1;
        int mostWait = 0;
        int[][] all = new int[12][];
        model.ships.forEach(ship -> all[ship[0]] = ship);
        model.carts.forEach(cart -> all[6 + cart[0]] = cart);
        for (int who = 0; who < 12; who++) {
            if (all[who] != null && (begins[who] - all[who][1]) * all[who][3] > most) {
                most = (begins[who] - all[who][1]) * all[who][3];
                dearest = who;
            }
        }
        for (int minute = 0; minute <= 240; minute++) {
            int wait = 0;
            for (int who = 0; who < 12; who++) {
                wait += all[who] != null && all[who][1] <= minute && begins[who] > minute ? 1 : 0;
            }
            if (wait > mostWait) {
                mostWait = wait;
                busiest = minute;
            }
        }
        due.is("dearest", x.dearest(), dearest);
        due.is("dearest STATUS", x.status(), dearest == -1 ? 6 : 0);
        due.is("busiest", x.busiest(), busiest);
        due.is("busiest STATUS", x.status(), busiest == -1 ? 6 : 0);
    }
}
