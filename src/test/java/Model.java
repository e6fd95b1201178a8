import java.util.ArrayList;
import java.util.List;
import java.util.Random;

/** A drawn RIVER, and the LEAST and the PLAN minute by minute, as the document's words say them. */
final class Model {
    static final int HOPELESS = 1_000_000_000;

    /** Of each: number, AT, TAKES, COSTS, 1 if a SAIL. */
    List<int[]> ships = new ArrayList<>();
    List<int[]> carts = new ArrayList<>();
    int turns = 5;
    int frost = 0;
    int frostFrom = 0;
    private int[][][][] memo;

    static Model drawn(Random random) {
        Model model = new Model();
        int mostAt = new int[] {10, 30, 60, 120}[random.nextInt(4)];
        int mostTakes = new int[] {2, 5, 20}[random.nextInt(3)];
        int mostCosts = new int[] {0, 3, 99}[random.nextInt(3)];
        int oneSailIn = new int[] {1, 3, 8, 1000}[random.nextInt(4)];
        int ships = random.nextInt(7);
        int carts = random.nextInt(7);
        for (int i = 0; i < ships; i++) {
            model.ships.add(new int[] {i, random.nextInt(mostAt + 1), 1 + random.nextInt(mostTakes),
                random.nextInt(mostCosts + 1), random.nextInt(oneSailIn) == 0 ? 1 : 0});
        }
        for (int i = 0; i < carts; i++) {
            model.carts.add(new int[] {i, random.nextInt(mostAt + 1), 1 + random.nextInt(mostTakes),
                random.nextInt(mostCosts + 1), 0});
        }
        model.turns = 1 + random.nextInt(new int[] {2, 8, 20}[random.nextInt(3)]);
        if (random.nextBoolean()) {
            model.frost = random.nextInt(21);
            model.frostFrom = random.nextInt(random.nextBoolean() ? 40 : 201);
        }
        return model;
    }

    String text() {
        StringBuilder text = new StringBuilder("port p calls l;turns " + turns + ";");
        if (frost > 0 || frostFrom > 0) {
            text.append("frost ").append(frost).append(" from ").append(frostFrom).append(';');
        }
        for (int[] s : ships) {
            text.append("ship s").append((char) ('a' + s[0])).append(" of p at ").append(s[1]).append(" takes ")
                    .append(s[2]).append(" costs ").append(s[3]).append(s[4] == 1 ? " sail;" : ";");
        }
        for (int[] c : carts) {
            text.append("cart c").append((char) ('a' + c[0])).append(" at ").append(c[1]).append(" takes ")
                    .append(c[2]).append(" costs ").append(c[3]).append(';');
        }
        return text.toString();
    }

    Model copy() {
        Model model = new Model();
        for (int[] s : ships) {
            model.ships.add(s.clone());
        }
        for (int[] c : carts) {
            model.carts.add(c.clone());
        }
        model.turns = turns;
        model.frost = frost;
        model.frostFrom = frostFrom;
        return model;
    }

    private static List<int[]> asTheyCome(List<int[]> all) {
        List<int[]> row = new ArrayList<>(all);
        row.sort((a, b) -> a[1] != b[1] ? a[1] - b[1] : a[0] - b[0]);
        return row;
    }

    int turnEnd(int minute) {
        return minute + turns + (minute >= frostFrom ? frost : 0);
    }

    int least() {
        ships = asTheyCome(ships);
        carts = asTheyCome(carts);
        memo = new int[300][2][ships.size() + 1][carts.size() + 1];
        for (int minute = 299; minute >= 0; minute--) {
            for (int open = 0; open < 2; open++) {
                for (int i = ships.size(); i >= 0; i--) {
                    for (int j = carts.size(); j >= 0; j--) {
                        memo[minute][open][i][j] = value(minute, open, i, j);
                    }
                }
            }
        }
        return memo[0][0][0][0];
    }

    private int value(int minute, int open, int i, int j) {
        if (i == ships.size() && j == carts.size()) {
            return 0;
        }
        if (minute > 240) {
            return HOPELESS;
        }
        int rest = memo[minute + 1][open][i][j];
        int turn = memo[turnEnd(minute)][1 - open][i][j];
        return Math.min(begin(minute, open, i, j), Math.min(rest, turn));
    }

    private int begin(int minute, int open, int i, int j) {
        int[] who = open == 1 ? (i < ships.size() ? ships.get(i) : null) : (j < carts.size() ? carts.get(j) : null);
        if (who == null || who[1] > minute || who[4] == 1 && who[1] != minute) {
            return HOPELESS;
        }
        int behind = memo[minute + who[2]][open][open == 1 ? i + 1 : i][open == 1 ? j : j + 1];
        return behind >= HOPELESS ? HOPELESS : behind + (minute - who[1]) * who[3];
    }

    /** The acts: 0 a SHIP, 1 a CART, 2 a turn; the minute; who (-1 without); the minute in which it is over. */
    List<int[]> plan() {
        least();
        List<int[]> acts = new ArrayList<>();
        int minute = 0;
        int open = 0;
        int i = 0;
        int j = 0;
        while (i < ships.size() || j < carts.size()) {
            int due = memo[minute][open][i][j];
            if (begin(minute, open, i, j) == due) {
                int[] who = open == 1 ? ships.get(i) : carts.get(j);
                acts.add(new int[] {1 - open, minute, who[0], minute + who[2]});
                minute += who[2];
                i += open;
                j += 1 - open;
            } else if (memo[minute + 1][open][i][j] == due) {
                minute++;
            } else {
                acts.add(new int[] {2, minute, -1, turnEnd(minute)});
                minute = turnEnd(minute);
                open = 1 - open;
            }
        }
        return acts;
    }
}
