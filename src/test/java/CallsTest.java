import java.util.ArrayList;
import java.util.List;
import java.util.Random;
import java.util.TreeSet;

/** Promises 18 to 32: by hand, then against sets of BEATS on drawn PORTS. */
public final class CallsTest {
    private static final Due due = new Due();

    public static void main(String[] args) {
        byHand();
        fractions();
        readingsStay();
        noPorts();
        codesByHand();
        wrongInputs();
        Random random = new Random(7);
        for (int i = 0; i < 60; i++) {
            drawnPorts(random);
        }
        for (int many = 1; many <= 4; many++) {
            for (int blasts = 1; blasts <= 4; blasts++) {
                for (int echo = 0; echo <= 9; echo++) {
                    codeAgainstAll(many, blasts, echo);
                }
            }
        }
        due.end("CallsTest");
    }

    private static void byHand() {
        HornBridge x = Due.at("port a calls l;port b calls s;port c calls llllll;echo 9;");
        due.fine(x, "sound l", x.sound(0), 0b111);
        due.fine(x, "sound s", x.sound(1), 1);
        due.fine(x, "sound llllll", x.sound(2), 0b111_0111_0111_0111_0111_0111L);
        due.fine(x, "heard s", x.heard(1), 0b1000000001);
        due.fine(x, "lasts s", x.lasts(1), 10);
        due.fine(x, "lasts llllll", x.lasts(2), 32);
        due.fine(x, "together", x.together(1, 1, 12), 1L | 1L << 9 | 1L << 12 | 1L << 21);
        due.fine(x, "together of the longest", x.together(1, 2, 12) >> 43, 1);
        due.fine(x, "far", x.far(0, 1), 4);
        due.fine(x, "silent", x.silent(), 3);
        due.fine(x, "clearEcho", x.clearEcho(), 0);
        due.fine(x, "parts", x.parts(0b111000000111), 3);
        due.fine(x, "parts", x.parts(Long.MAX_VALUE), 7);
        HornBridge y = Due.at("port a calls lls;port b calls sll;echo 5;");
        due.fine(y, "alike", y.alike(), 0);
        HornBridge z = Due.at("port a calls s;echo 1;port b calls ss;");
        due.fine(z, "alike", z.alike(), 0);
        due.fine(z, "silent", z.silent(), 4);
    }

    private static void fractions() {
        HornBridge x = Due.at("port a calls s;port b calls ss;port c calls sss;");
        // b alone; a and a by 2; a and b by 0; b and a by 2; b and b by 0.
        due.fine(x, "readings", x.readings(5), 5);
        due.fine(x, "doubt a", x.doubt(5, 0));
        due.fraction(x, "doubt a", 3, 5);
        due.fine(x, "doubt b", x.doubt(5, 1));
        due.fraction(x, "doubt b", 4, 5);
        due.no(x, "doubt c of none", x.doubt(2, 2), 6);
        due.fraction(x, "as ahead", 4, 5);
        due.fine(x, "doubt c", x.doubt(5, 2));
        due.fraction(x, "doubt c", 0, 1);
    }

    private static void readingsStay() {
        HornBridge x = Due.at("port a calls s;port b calls ss;");
        due.fine(x, "readings", x.readings(5), 5);
        int[][] want = {{1, -1, -1}, {0, 0, 2}, {0, 1, 0}, {1, 0, 2}, {1, 1, 0}};
        due.none(x, "STATUS 1", x.readings(0), 1);
        due.fine(x, "doubt leaves them", x.doubt(1, 0));
        due.fine(x, "clearBeats leaves them", x.clearBeats(0, 1), 1);
        Due.river(x, "");
        for (int k = 0; k < want.length; k++) {
            for (int what = 0; what < 3; what++) {
                due.is("reading(" + k + ", " + what + ")", x.reading(k, what), want[k][what]);
                due.is("STATUS", x.status(), want[k][what] == -1 ? 6 : 0);
            }
        }
        due.none(x, "reading(5, 0)", x.reading(5, 0), 6);
        due.none(x, "reading(-1, 0)", x.reading(-1, 0), 6);
        due.none(x, "reading(9, 3)", x.reading(9, 3), 1);
        due.none(x, "reading(0, -1)", x.reading(0, -1), 1);
        due.fine(x, "none", x.readings(5), 0);
        due.none(x, "reading(0, 0)", x.reading(0, 0), 6);
    }

    private static void noPorts() {
        HornBridge x = new HornBridge();
        due.fine(x, "silent", x.silent(), 0);
        due.fine(x, "alike", x.alike(), 0);
        due.fine(x, "clearEcho", x.clearEcho(), 0);
        due.fine(x, "parts", x.parts(5), 0);
    }

    private static void codesByHand() {
        HornBridge x = new HornBridge();
        due.none(x, "three of one blast", x.code(3, 1, 0), 6);
        due.none(x, "codeAt", x.codeAt(0), 6);
        due.fine(x, "code(4, 4, 0)", x.code(4, 4, 0), 6);
        long[] want = {12, 19, 12 * 32 + 12, 12 * 32 + 19};
        due.none(x, "code(3, 1, 0)", x.code(3, 1, 0), 6);
        for (int k = 0; k < 4; k++) {
            due.fine(x, "codeAt(" + k + ")", x.codeAt(k), want[k]);
        }
        due.none(x, "codeAt(4)", x.codeAt(4), 6);
        due.none(x, "codeAt(-1)", x.codeAt(-1), 6);
    }

    private static void wrongInputs() {
        HornBridge x = Due.at("port a calls s;port b calls ss;");
        int[] wrong = {-1, 2, 6, Integer.MIN_VALUE, Integer.MAX_VALUE};
        for (int port : wrong) {
            due.none(x, "sound", x.sound(port), 1);
            due.none(x, "heard", x.heard(port), 1);
            due.none(x, "together", x.together(port, 0, 0), 1);
            due.none(x, "together", x.together(0, port, 0), 1);
            due.none(x, "lasts", x.lasts(port), 1);
            due.none(x, "far", x.far(port, 0), 1);
            due.none(x, "far", x.far(0, port), 1);
            due.none(x, "clearBeats", x.clearBeats(port, 0), 1);
            due.none(x, "clearBeats", x.clearBeats(0, port), 1);
            due.no(x, "doubt", x.doubt(1, port), 1);
        }
        due.none(x, "together", x.together(0, 0, -1), 1);
        due.none(x, "together", x.together(0, 0, 13), 1);
        for (long number : new long[] {0, -1, Long.MIN_VALUE}) {
            due.none(x, "readings", x.readings(number), 1);
            due.none(x, "parts", x.parts(number), 1);
            due.no(x, "doubt", x.doubt(number, 0), 1);
        }
        int[][] codes = {{0, 1, 0}, {5, 1, 0}, {1, 0, 0}, {1, 5, 0}, {1, 1, -1}, {1, 1, 10}};
        for (int[] code : codes) {
            due.none(x, "code", x.code(code[0], code[1], code[2]), 1);
        }
    }

    // ---- against sets of BEATS

    private static TreeSet<Integer> heard(String blasts, int echo) {
        TreeSet<Integer> beats = new TreeSet<>();
        int beat = 0;
        for (char c : blasts.toCharArray()) {
            for (int i = 0; i < (c == 'l' ? 3 : 1); i++) {
                beats.add(beat);
                beats.add(beat + echo);
                beat++;
            }
            beat++;
        }
        return beats;
    }

    private static TreeSet<Integer> both(TreeSet<Integer> a, TreeSet<Integer> b, int beats) {
        TreeSet<Integer> all = new TreeSet<>(a);
        for (int beat : b) {
            all.add(beat + beats);
        }
        return all;
    }

    private static long number(TreeSet<Integer> beats) {
        long all = 0;
        for (int beat : beats) {
            all += 1L << beat;
        }
        return all;
    }

    private static List<String> words(int most) {
        List<String> words = new ArrayList<>(List.of("l", "s"));
        for (int i = 0; words.get(i).length() < most; i++) {
            words.add(words.get(i) + "l");
            words.add(words.get(i) + "s");
        }
        return words;
    }

    private static void drawnPorts(Random random) {
        int most = 1 + random.nextInt(6);
        List<String> words = words(most);
        List<String> ports = new ArrayList<>();
        int echo = random.nextInt(10);
        StringBuilder text = new StringBuilder("echo " + echo + ";");
        int many = 1 + random.nextInt(6);
        for (int i = 0; i < many && !words.isEmpty(); i++) {
            ports.add(words.remove(random.nextInt(words.size())));
            text.append("port p").append((char) ('a' + i)).append(" calls ").append(ports.get(i)).append(';');
        }
        HornBridge x = Due.at(text.toString());
        List<TreeSet<Integer>> heard = new ArrayList<>();
        TreeSet<Integer> any = new TreeSet<>();
        for (int p = 0; p < ports.size(); p++) {
            heard.add(heard(ports.get(p), echo));
            any.addAll(heard.get(p));
            due.fine(x, "sound", x.sound(p), number(heard(ports.get(p), 0)));
            due.fine(x, "heard", x.heard(p), number(heard.get(p)));
            due.fine(x, "lasts", x.lasts(p), heard.get(p).last() + 1);
        }
        int silent = 0;
        while (any.contains(silent)) {
            silent++;
        }
        due.fine(x, "silent", x.silent(), silent);
        int alike = 0;
        for (int a = 0; a < ports.size(); a++) {
            for (int b = 0; b < a; b++) {
                alike += heard.get(a).equals(heard.get(b)) ? 1 : 0;
            }
        }
        due.fine(x, "alike", x.alike(), alike);
        due.fine(x, "clearEcho", x.clearEcho(), 0);
        for (int i = 0; i < 8; i++) {
            int a = random.nextInt(ports.size());
            int b = random.nextInt(ports.size());
            TreeSet<Integer> sound = both(heard.get(a), heard.get(b), random.nextInt(13));
            TreeSet<Integer> apart = new TreeSet<>(heard.get(a));
            apart.removeIf(heard.get(b)::contains);
            int far = apart.size();
            apart = new TreeSet<>(heard.get(b));
            apart.removeIf(heard.get(a)::contains);
            due.fine(x, "far", x.far(a, b), far + apart.size());
            checkReadings(x, heard, i % 4 == 0 ? heard.get(a) : sound);
            checkClearBeats(x, heard, a, b);
        }
    }

    private static List<int[]> readings(List<TreeSet<Integer>> heard, TreeSet<Integer> sound) {
        List<int[]> all = new ArrayList<>();
        for (int a = 0; a < heard.size(); a++) {
            if (heard.get(a).equals(sound)) {
                all.add(new int[] {a, -1, -1});
            }
        }
        for (int a = 0; a < heard.size(); a++) {
            for (int b = 0; b < heard.size(); b++) {
                for (int beats = 0; beats <= 12; beats++) {
                    if ((beats > 0 || a <= b) && both(heard.get(a), heard.get(b), beats).equals(sound)) {
                        all.add(new int[] {a, b, beats});
                    }
                }
            }
        }
        return all;
    }

    private static void checkReadings(HornBridge x, List<TreeSet<Integer>> heard, TreeSet<Integer> sound) {
        List<int[]> all = readings(heard, sound);
        long number = number(sound);
        due.fine(x, "readings", x.readings(number), all.size());
        for (int k = 0; k < all.size() && k < 6; k++) {
            for (int what = 0; what < 3; what++) {
                due.is("reading", x.reading(k, what), all.get(k)[what]);
            }
        }
        int parts = 0;
        for (int p = 0; p < heard.size(); p++) {
            parts += sound.containsAll(heard.get(p)) ? 1 << p : 0;
            int with = 0;
            for (int[] reading : all) {
                with += reading[0] == p || reading[1] == p ? 1 : 0;
            }
            due.fine(x, "doubt", x.doubt(number, p));
            due.is("doubt crosswise", x.top() * all.size(), x.bottom() * with);
            due.is("no common divisor", java.math.BigInteger.valueOf(x.top())
                    .gcd(java.math.BigInteger.valueOf(x.bottom())).intValue(), 1);
        }
        due.fine(x, "parts", x.parts(number), parts);
    }

    private static void checkClearBeats(HornBridge x, List<TreeSet<Integer>> heard, int a, int b) {
        int clear = -1;
        for (int beats = 12; beats >= 0; beats--) {
            TreeSet<Integer> sound = both(heard.get(a), heard.get(b), beats);
            due.is("together", x.together(a, b, beats), number(sound));
            if (readings(heard, sound).size() == 1) {
                clear = beats;
            }
        }
        due.is("clearBeats", x.clearBeats(a, b), clear);
        due.is("clearBeats STATUS", x.status(), clear == -1 ? 6 : 0);
    }

    /** The first row of calls that is a CODE, of all rows one by one. */
    private static void codeAgainstAll(int many, int blasts, int echo) {
        List<String> words = words(blasts);
        words.sort((a, b) -> a.length() != b.length() ? a.length() - b.length() : a.compareTo(b));
        int[] row = new int[many];
        for (int i = 0; i < many; i++) {
            row[i] = i;
        }
        boolean found = false;
        while (!found && row[many - 1] < words.size()) {
            found = isCode(words, row, echo);
            if (!found) {
                nextRow(row, words.size());
            }
        }
        HornBridge x = new HornBridge();
        int all = 0;
        for (int i = 0; i < many && found; i++) {
            all += words.get(row[i]).length();
        }
        String call = "code(" + many + ", " + blasts + ", " + echo + ")";
        due.is(call, x.code(many, blasts, echo), found ? all : -1);
        due.is(call + " STATUS", x.status(), found ? 0 : 6);
        for (int i = 0; i < many && found; i++) {
            long letters = 0;
            for (char c : words.get(row[i]).toCharArray()) {
                letters = letters * 32 + (c - 'a' + 1);
            }
            due.fine(x, call + " codeAt", x.codeAt(i), letters);
        }
    }

    private static void nextRow(int[] row, int end) {
        int last = row.length - 1;
        int k = last;
        while (k > 0 && row[k] == end - 1 - (last - k)) {
            k--;
        }
        row[k]++;
        for (int i = k + 1; i <= last; i++) {
            row[i] = row[i - 1] + 1;
        }
    }

    private static boolean isCode(List<String> words, int[] row, int echo) {
        for (int a = 0; a < row.length; a++) {
            for (int b = 0; b < a; b++) {
                TreeSet<Integer> one = heard(words.get(row[a]), echo);
                TreeSet<Integer> other = heard(words.get(row[b]), echo);
                if (one.equals(other)) {
                    return false;
                }
                for (int c = 0; c < row.length; c++) {
                    if (c != a && c != b && both(one, other, 0).equals(heard(words.get(row[c]), echo))) {
                        return false;
                    }
                }
            }
        }
        return true;
    }
}
