import java.util.ArrayList;
import java.util.Collections;
import java.util.List;
import java.util.Random;
import java.util.regex.Matcher;
import java.util.regex.Pattern;

/** Texts drawn for RIVERS and RULES, and texts like these that a hand has spoiled. */
final class Drawn {
    private static final String[] WORDS = ("port calls turns frost from echo ship of at takes costs sail cart if do open "
            + "shut rest or and not waiting ships carts next minute turned ; < > = ( ) 0 1 5 20 21 120 121 99 100 200 201 300 "
            + "301 9 10 00012 0012 l s ls lsls llllll lllllll a b abcdefgh abcdefghi # A \u00ff").split(" ");
    private static final String[] DAYS = {"", "if shut and ships>0 do open;if open and ships=0 and next>8 do shut;",
        "if shut and next<8 do open;if open and carts>1 and ships=0 do shut;", "if open or shut do open;",
        "if open and carts > 0 and turned > 10 do shut; if ships > 0 do open;",
        "if turned > 3 and open do shut; if turned > 7 do open;", "if turned > 1 and open do shut; if shut do open;",
        "if open and ships > 0 do shut; if shut do open;", "if open and turned > 2 do shut; if shut and turned > 2 do open;"};
    private static final int[] EDGES = {0, 1, 9, 10, 19, 20, 21, 22, 98, 99, 100, 101, 119, 120, 121, 122, 199, 200, 201,
        202, 299, 300, 301, 302, 9999, 10000};
    private static final Pattern PIECE = Pattern.compile("[a-z]+|[0-9]+|.", Pattern.DOTALL);

    private final Random random;

    Drawn(Random random) {
        this.random = random;
    }

    int upTo(int most) {
        return random.nextInt(most + 1);
    }

    int of(int... some) {
        return some[random.nextInt(some.length)];
    }

    boolean oneIn(int many) {
        return random.nextInt(many) == 0;
    }

    private String of(String... some) {
        return some[random.nextInt(some.length)];
    }

    String river() {
        List<String> ports = new ArrayList<>();
        List<String> calls = new ArrayList<>();
        for (int many = of(1, 2, 3, 4, 6); calls.size() < many;) {
            String blasts = blasts();
            if (!calls.contains(blasts)) {
                calls.add(blasts);
                ports.add("port p" + letter(calls.size()) + " calls " + blasts + ";");
            }
        }
        List<String> parts = new ArrayList<>();
        int span = of(5, 20, 40, 80, 120);
        int takes = of(1, 5, 19);
        int costs = of(0, 3, 99);
        int oneSailIn = of(1, 3, 9, 999);
        for (int k = upTo(6); k > 0; k--) {
            parts.add("ship s" + letter(k) + " of p" + letter(1 + upTo(ports.size() - 1)) + passes(span, takes, costs)
                    + (oneIn(oneSailIn) ? " sail;" : ";"));
        }
        for (int k = upTo(6); k > 0; k--) {
            parts.add("cart c" + letter(k) + passes(span, takes, costs) + ";");
        }
        if (!oneIn(3)) {
            parts.add("turns " + (1 + upTo(of(2, 5, 19))) + ";");
        }
        if (oneIn(2)) {
            parts.add("frost " + upTo(of(3, 20)) + " from " + upTo(of(20, 60, 200)) + ";");
        }
        if (!oneIn(3)) {
            parts.add("echo " + upTo(9) + ";");
        }
        Collections.shuffle(parts, random);
        ports.addAll(parts);
        return String.join(of(" ", "", "\n"), ports);
    }

    private static char letter(int k) {
        return (char) ('a' + k);
    }

    private String blasts() {
        StringBuilder blasts = new StringBuilder();
        for (int k = of(1, 1, 2, 2, 3, 4, 6); k > 0; k--) {
            blasts.append(oneIn(2) ? 'l' : 's');
        }
        return blasts.toString();
    }

    private String passes(int span, int takes, int costs) {
        return " at " + upTo(span) + " takes " + (1 + upTo(takes)) + " costs " + upTo(costs);
    }

    String rules() {
        if (oneIn(3)) {
            return of(DAYS);
        }
        if (oneIn(8)) {
            return shortRules();
        }
        StringBuilder rules = new StringBuilder();
        for (int k = of(0, 1, 2, 3, 4, 6, 12, 13); k > 0; k--) {
            rules.append("if ").append(either(0)).append(" do ").append(of("open", "shut", "rest")).append(';');
        }
        return rules.toString();
    }

    /** About as many RULES, and as many of open and shut in all, as there may be. */
    private String shortRules() {
        if (oneIn(2)) {
            return "if open do rest;".repeat(11 + upTo(2)) + of("", "turns", "if", "or");
        }
        return "if open" + " or shut".repeat(22 + upTo(2)) + of(" do rest;", " or not", " and ships<2 do shut;", "");
    }

    private String either(int within) {
        return both(within) + (oneIn(4) ? " or " + both(within) : "");
    }

    private String both(int within) {
        return one(within) + (oneIn(3) ? " and " + one(within) : "");
    }

    private String one(int within) {
        int kind = upTo(9);
        if (kind == 0 && within < 7) {
            return "not " + one(within + 1);
        }
        if (kind == 1 && within < 7) {
            return "(" + either(within + 1) + ")";
        }
        if (kind < 4) {
            return of("open", "shut");
        }
        return of("ships", "carts", "next", "minute", "turned") + of("<", ">", "=") + upTo(of(3, 6, 40, 150, 300));
    }

    String spoiled(String text) {
        String now = text;
        for (int k = of(1, 1, 1, 2, 3); k > 0; k--) {
            int kind = upTo(4);
            now = kind == 4 ? spoiledNumber(now) : kind == 0 ? spoiledPiece(now) : kind == 1 ? spoiledByte(now) : kind == 2 ? spoiledPart(now)
                    : oneIn(2) ? now.substring(0, upTo(now.length())) : now + of(WORDS);
        }
        return now;
    }

    private String spoiledPiece(String text) {
        List<String> pieces = new ArrayList<>();
        for (Matcher matcher = PIECE.matcher(text); matcher.find();) {
            pieces.add(matcher.group());
        }
        int k = upTo(pieces.size());
        if (k == pieces.size() || oneIn(4)) {
            pieces.add(k, of("", " ") + of(WORDS) + of("", " "));
        } else if (oneIn(3)) {
            pieces.remove(k);
        } else {
            pieces.set(k, of(WORDS));
        }
        return String.join("", pieces);
    }

    private String spoiledNumber(String text) {
        List<int[]> numbers = new ArrayList<>();
        for (Matcher matcher = Pattern.compile("[0-9]+").matcher(text); matcher.find();) {
            numbers.add(new int[] {matcher.start(), matcher.end()});
        }
        if (numbers.isEmpty()) {
            return text;
        }
        int[] one = numbers.get(upTo(numbers.size() - 1));
        return text.substring(0, one[0]) + of(EDGES) + text.substring(one[1]);
    }

    private String spoiledByte(String text) {
        int k = upTo(text.length());
        String others = "abls ;019(<=)\n\t\r\u00ff\u0000Z-";
        return text.substring(0, k) + others.charAt(upTo(others.length() - 1)) + text.substring(Math.min(text.length(), k + upTo(1)));
    }

    private String spoiledPart(String text) {
        List<String> parts = new ArrayList<>(List.of(text.split(";", -1)));
        int k = upTo(parts.size() - 1);
        int other = upTo(parts.size() - 1);
        if (oneIn(2)) {
            parts.add(other, parts.get(k));
        } else {
            Collections.swap(parts, k, other);
        }
        return String.join(";", parts);
    }
}
