/** The edges of promises 18 to 32, sentence by sentence: SOUND, HEARD, TOGETHER, READINGS, CODES. */
public final class EdgeCallsTest {
    private static final Due due = new Due();
    private static final String SIX = "port a calls l;port b calls s;port c calls ll;port d calls ls;port e calls sl;"
            + "port f calls ss;";
    /** The calls of SIX, BEAT 0 being the last bit. */
    private static final long[] SOUNDS = {0b111, 0b1, 0b1110111, 0b10111, 0b11101, 0b101};

    public static void main(String[] args) {
        noSuchPort();
        blastsAndSilence();
        longestCall();
        echoOf0To9();
        lastsToTheLastBeat();
        togetherBy0To12();
        togetherOfOneTwice();
        farOfTwo();
        alikeCouples();
        readingsFrom1On();
        aloneAheadOfCouples();
        by0BeatsTheSecondNotBelow();
        couplesByBeats();
        coupleOfTheLastPort();
        readingTells();
        readingsOfTheLatestCall();
        doubtFrom0To1();
        partsOfANumber();
        clearBeats0To12();
        clearBeatsOfNone();
        clearEcho();
        silent();
        codesOf1To4();
        codeAtTells();
        due.end("EdgeCallsTest");
    }

    private static String ports(int many) {
        StringBuilder text = new StringBuilder();
        for (int i = 0; i < many; i++) {
            text.append(SIX.substring(SIX.indexOf("port " + (char) ('a' + i))).split(";")[0]).append(';');
        }
        return text.toString();
    }

    /** Of RIVERS with 0 to 6 PORTS: the first and the last there is, and those beside them. */
    private static void noSuchPort() {
        for (int many = 0; many <= 6; many++) {
            HornBridge x = Due.at(ports(many));
            for (int port : new int[] {Integer.MIN_VALUE, -1, many, 6, 7, Integer.MAX_VALUE}) {
                due.none(x, "sound", x.sound(port), 1);
                due.none(x, "heard", x.heard(port), 1);
                due.none(x, "lasts", x.lasts(port), 1);
                due.none(x, "together", x.together(port, 0, 0), 1);
                due.none(x, "together", x.together(0, port, 0), 1);
                due.none(x, "far", x.far(port, 0), 1);
                due.none(x, "far", x.far(0, port), 1);
                due.none(x, "clearBeats", x.clearBeats(port, 0), 1);
                due.none(x, "clearBeats", x.clearBeats(0, port), 1);
                due.no(x, "doubt", x.doubt(1, port), 1);
            }
            for (int port = 0; port < many; port++) {
                due.fine(x, "sound", x.sound(port), SOUNDS[port]);
                due.fine(x, "heard", x.heard(port), SOUNDS[port]);
                due.fine(x, "far", x.far(port, port), 0);
                due.fine(x, "together", x.together(port, port, 0), SOUNDS[port]);
            }
        }
    }

    /** "a long blast three BEATS, a short one one, between two blasts one BEAT of silence". */
    private static void blastsAndSilence() {
        HornBridge x = Due.at(SIX);
        for (int port = 0; port < 6; port++) {
            due.fine(x, "sound", x.sound(port), SOUNDS[port]);
        }
        HornBridge y = Due.at("port a calls lsl;port b calls sls;port c calls ssssss;");
        due.fine(y, "lsl", y.sound(0), 0b111_0_1_0_111);
        due.fine(y, "sls", y.sound(1), 0b1_0_111_0_1);
        due.fine(y, "ssssss", y.sound(2), 0b10101010101);
    }

    private static void longestCall() {
        HornBridge x = Due.at("port a calls llllll;port b calls slllll;echo 9;");
        long sound = 0b111_0111_0111_0111_0111_0111L;
        due.fine(x, "sound", x.sound(0), sound);
        due.fine(x, "heard", x.heard(0), sound | sound << 9);
        due.fine(x, "lasts", x.lasts(0), 32);
        due.fine(x, "together", x.together(0, 0, 12), sound | sound << 9 | sound << 12 | sound << 21);
        due.fine(x, "one READING alone", x.readings(x.together(0, 0, 12)), 1);
        due.fine(x, "a short one ahead", x.lasts(1), 30);
    }

    /** "the same that many BEATS later, too"; "0: none, as without". */
    private static void echoOf0To9() {
        for (int echo = 0; echo <= 9; echo++) {
            HornBridge x = Due.at(SIX + "echo " + echo + ";");
            for (int port = 0; port < 6; port++) {
                due.fine(x, "the SOUND is without an ECHO", x.sound(port), SOUNDS[port]);
                due.fine(x, "heard", x.heard(port), SOUNDS[port] | SOUNDS[port] << echo);
            }
        }
    }

    /** "to the last in which it sounds". */
    private static void lastsToTheLastBeat() {
        int[] beats = {3, 1, 7, 5, 5, 3};
        for (int echo = 0; echo <= 9; echo++) {
            HornBridge x = Due.at(SIX + "echo " + echo + ";");
            for (int port = 0; port < 6; port++) {
                due.fine(x, "lasts", x.lasts(port), beats[port] + echo);
                due.fine(x, "it sounds in the last", x.heard(port) >> beats[port] + echo - 1, 1);
            }
        }
    }

    /** "the second begun so many BEATS (0 to 12) behind the first". */
    private static void togetherBy0To12() {
        HornBridge x = Due.at("port a calls l;port b calls s;echo 2;");
        for (int beats = 0; beats <= 12; beats++) {
            due.fine(x, "l ahead", x.together(0, 1, beats), 0b11111L | 0b101L << beats);
            due.fine(x, "s ahead", x.together(1, 0, beats), 0b101L | 0b11111L << beats);
        }
        for (int beats : new int[] {Integer.MIN_VALUE, -1, 13, 64, Integer.MAX_VALUE}) {
            due.none(x, "together by " + beats, x.together(0, 1, beats), 1);
            due.none(x, "together by " + beats, x.together(0, 0, beats), 1);
        }
    }

    private static void togetherOfOneTwice() {
        HornBridge x = Due.at("port a calls s;");
        due.fine(x, "at once", x.together(0, 0, 0), 1);
        due.fine(x, "by 1", x.together(0, 0, 1), 3);
        due.fine(x, "by 12", x.together(0, 0, 12), 1 << 12 | 1);
    }

    /** "in how many BEATS just one of both is HEARD": of those HEARD alike in none. */
    private static void farOfTwo() {
        HornBridge x = Due.at("port a calls l;port b calls ss;port c calls s;echo 1;");
        due.fine(x, "of itself", x.far(0, 0), 0);
        due.fine(x, "alike", x.far(0, 1), 0);
        due.fine(x, "1111 and 11", x.far(0, 2), 2);
        due.fine(x, "11 and 1111", x.far(2, 0), 2);
        HornBridge y = Due.at("port a calls l;port b calls ss;port c calls s;");
        due.fine(y, "111 and 101", y.far(0, 1), 1);
        due.fine(y, "101 and 1", y.far(1, 2), 1);
        due.fine(y, "111 and 1", y.far(0, 2), 2);
        HornBridge z = Due.at("port a calls llllll;port b calls ssssss;echo 9;");
        long sound = 0b111_0111_0111_0111_0111_0111L;
        long shorts = 0b10101010101L;
        due.fine(z, "the longest", z.far(0, 1), Long.bitCount((sound | sound << 9) ^ (shorts | shorts << 9)));
    }

    /** "How many couples of PORTS there are whose calls are HEARD alike": none, one, all of six. */
    private static void alikeCouples() {
        String[] calls = {"llll", "lllss", "llsls", "llssl", "lslls", "lslsl"};
        StringBuilder text = new StringBuilder();
        for (int many = 0; many <= 6; many++) {
            HornBridge x = Due.at(text + "echo 1;");
            due.fine(x, "alike " + many, x.alike(), many * (many - 1) / 2);
            HornBridge y = Due.at(text.toString());
            due.fine(y, "without an ECHO", y.alike(), 0);
            if (many < 6) {
                text.append("port p").append((char) ('a' + many)).append(" calls ").append(calls[many]).append(';');
            }
        }
        HornBridge x = Due.at("port a calls l;port b calls s;port c calls ss;echo 1;");
        due.fine(x, "one couple", x.alike(), 1);
    }

    // ---- READINGS

    /** "1: below 1". */
    private static void readingsFrom1On() {
        HornBridge x = Due.at("port a calls s;");
        for (long number : new long[] {Long.MIN_VALUE, -1, 0}) {
            due.none(x, "readings", x.readings(number), 1);
            due.no(x, "doubt", x.doubt(number, 0), 1);
            due.none(x, "parts", x.parts(number), 1);
        }
        due.fine(x, "of 1", x.readings(1), 2);
        due.fine(x, "doubt of 1", x.doubt(1, 0));
        due.fine(x, "parts of 1", x.parts(1), 1);
        due.fine(x, "of the highest number", x.readings(Long.MAX_VALUE), 0);
        due.no(x, "doubt of the highest", x.doubt(Long.MAX_VALUE, 0), 6);
        due.fine(x, "parts of the highest", x.parts(Long.MAX_VALUE), 1);
        HornBridge none = new HornBridge();
        due.fine(none, "without PORTS", none.readings(1), 0);
        due.fine(none, "without PORTS", none.parts(1), 0);
    }

    private static void readings(HornBridge x, long number, int[]... want) {
        due.fine(x, "readings", x.readings(number), want.length);
        for (int k = 0; k < want.length; k++) {
            due.fine(x, "PORT of reading " + k, x.reading(k, 0), want[k][0]);
            if (want[k].length == 1) {
                due.none(x, "second of reading " + k, x.reading(k, 1), 6);
                due.none(x, "BEATS of reading " + k, x.reading(k, 2), 6);
            } else {
                due.fine(x, "second of reading " + k, x.reading(k, 1), want[k][1]);
                due.fine(x, "BEATS of reading " + k, x.reading(k, 2), want[k][2]);
            }
        }
        due.none(x, "no more", x.reading(want.length, 0), 6);
    }

    /** "first the PORTS alone by numbers, then couples by the first, the second". */
    private static void aloneAheadOfCouples() {
        HornBridge x = Due.at("port a calls l;port b calls ss;echo 1;");
        readings(x, 0b1111, new int[] {0}, new int[] {1}, new int[] {0, 0, 0}, new int[] {0, 1, 0}, new int[] {1, 1, 0});
        // 1111 and 1111 by 4 BEATS: each of both first, each of both second, with more than 0 BEATS.
        readings(x, 0b11111111, new int[] {0, 0, 4}, new int[] {0, 1, 4}, new int[] {1, 0, 4}, new int[] {1, 1, 4});
    }

    /** "with 0 BEATS the second not below the first"; "one twice, too". */
    private static void by0BeatsTheSecondNotBelow() {
        HornBridge x = Due.at("port a calls s;port b calls ss;");
        readings(x, 0b1, new int[] {0}, new int[] {0, 0, 0});
        readings(x, 0b101, new int[] {1}, new int[] {0, 0, 2}, new int[] {0, 1, 0}, new int[] {1, 0, 2}, new int[] {1, 1, 0});
        HornBridge y = Due.at("port a calls ss;port b calls s;");
        readings(y, 0b101, new int[] {0}, new int[] {0, 0, 0}, new int[] {0, 1, 0}, new int[] {0, 1, 2}, new int[] {1, 1, 2});
    }

    /** "0 to 12 BEATS with which they are TOGETHER just so": 12, but not 13. */
    private static void couplesByBeats() {
        HornBridge x = Due.at("port a calls s;");
        readings(x, 1 << 12 | 1, new int[] {0, 0, 12});
        readings(x, 1 << 13 | 1);
        HornBridge y = Due.at("port a calls llllll;port b calls s;");
        // BEATS 12, 13 and 14 are one blast, but an s may begin in 12 alone.
        readings(y, y.sound(0), new int[] {0}, new int[] {0, 0, 0}, new int[] {0, 1, 0}, new int[] {0, 1, 1},
                new int[] {0, 1, 2}, new int[] {0, 1, 4}, new int[] {0, 1, 5}, new int[] {0, 1, 6}, new int[] {0, 1, 8},
                new int[] {0, 1, 9}, new int[] {0, 1, 10}, new int[] {0, 1, 12});
        // One BEAT more or less is another number.
        readings(y, y.sound(0) | 1L << 23);
        readings(y, y.sound(0) ^ 1L << 13);
        due.fine(x, "doubt by 12", x.doubt(1 << 12 | 1, 0));
        due.fraction(x, "doubt by 12", 1, 1);
        due.no(x, "doubt by 13", x.doubt(1 << 13 | 1, 0), 6);
        due.fine(y, "doubt by 0 to 12", y.doubt(y.sound(0), 1));
        due.fraction(y, "doubt by 0 to 12", 5, 6);
    }

    /** The last of six PORTS stands in a couple like each other one. */
    private static void coupleOfTheLastPort() {
        HornBridge x = Due.at(SIX);
        readings(x, 0b1111, new int[] {0, 0, 1}, new int[] {0, 1, 3}, new int[] {0, 5, 1}, new int[] {1, 0, 1},
                new int[] {5, 0, 1}, new int[] {5, 5, 1});
        due.fine(x, "doubt of the last", x.doubt(0b1111, 5));
        due.fraction(x, "doubt of the last", 1, 2);
        readings(x, 0b101, new int[] {5}, new int[] {1, 1, 2}, new int[] {1, 5, 0}, new int[] {5, 1, 2}, new int[] {5, 5, 0});
    }

    /** "what 0: the PORT, 1: the second (6: alone), 2: the BEATS (6: alone) (1: what; 6: none such)". */
    private static void readingTells() {
        HornBridge x = Due.at("port a calls s;");
        due.none(x, "ahead of any", x.reading(0, 0), 6);
        x.readings(1);
        for (int what : new int[] {Integer.MIN_VALUE, -1, 3, Integer.MAX_VALUE}) {
            due.none(x, "what " + what, x.reading(0, what), 1);
            due.none(x, "what " + what + " of none such", x.reading(2, what), 1);
        }
        for (int k : new int[] {Integer.MIN_VALUE, -1, 2, 474, Integer.MAX_VALUE}) {
            for (int what = 0; what < 3; what++) {
                due.none(x, "reading " + k, x.reading(k, what), 6);
            }
        }
        due.fine(x, "the first", x.reading(0, 0), 0);
        due.fine(x, "the last", x.reading(1, 2), 0);
    }

    /** "by readings() latest with STATUS 0". */
    private static void readingsOfTheLatestCall() {
        HornBridge x = Due.at("port a calls s;");
        x.readings(3);
        due.fine(x, "BEATS", x.reading(0, 2), 1);
        due.none(x, "STATUS 1", x.readings(0), 1);
        due.fine(x, "as ahead", x.reading(0, 2), 1);
        Due.river(x, "");
        due.fine(x, "of the RIVER ahead", x.reading(0, 2), 1);
        due.fine(x, "none of this one", x.readings(3), 0);
        due.none(x, "none", x.reading(0, 2), 6);
    }

    /** "in how many of these it is, by how many there are"; "6: no READINGS". */
    private static void doubtFrom0To1() {
        HornBridge x = Due.at("port a calls l;port b calls s;port c calls ssss;");
        // Of 111: l alone; l and l at once; l and s by 0, 1, 2.
        due.fine(x, "in all", x.doubt(0b111, 0));
        due.fraction(x, "in all", 1, 1);
        due.fine(x, "in some", x.doubt(0b111, 1));
        due.fraction(x, "in some", 3, 5);
        due.fine(x, "in none", x.doubt(0b111, 2));
        due.fraction(x, "in none", 0, 1);
        due.fine(x, "once, where it is twice in one", x.doubt(0b11, 1));
        due.fraction(x, "once", 1, 1);
        x.doubt(0b111, 1);
        due.no(x, "no READINGS", x.doubt(0b10, 0), 6);
        due.fraction(x, "as ahead", 3, 5);
        due.no(x, "no such PORT, and no READINGS", x.doubt(0b10, 3), 1);
        HornBridge y = Due.at("port a calls l;port b calls ss;echo 1;");
        // Of 11111111 four: each is in three.
        due.fine(y, "without a common divisor", y.doubt(0b11111111, 1));
        due.fraction(y, "without a common divisor", 3, 4);
        HornBridge z = Due.at("port a calls l;port b calls s;port c calls ss;");
        // Of 111: a; aa 0; ab 0, 1, 2; ac 0; cb 1, so that b is in four and c in two of seven.
        due.fine(z, "b", z.doubt(0b111, 1));
        due.fraction(z, "b", 4, 7);
        due.fine(z, "c", z.doubt(0b111, 2));
        due.fraction(z, "c", 2, 7);
        HornBridge w = Due.at("port a calls s;");
        due.fine(w, "one of one", w.doubt(3, 0));
        due.fraction(w, "one of one", 1, 1);
    }

    /** "whose calls, as HEARD, sound in no BEAT in which it does not". */
    private static void partsOfANumber() {
        HornBridge x = Due.at(SIX + "echo 3;");
        due.fine(x, "all", x.parts(Long.MAX_VALUE), 63);
        for (int port = 0; port < 6; port++) {
            long heard = SOUNDS[port] | SOUNDS[port] << 3;
            due.fine(x, "just it", x.parts(heard) >> port & 1, 1);
            for (int beat = 0; beat < 12; beat++) {
                long less = heard & ~(1L << beat);
                if (less > 0) {
                    due.fine(x, "one BEAT less", x.parts(less) >> port & 1, less == heard ? 1 : 0);
                }
                due.fine(x, "one BEAT more", x.parts(heard | 1L << beat) >> port & 1, 1);
            }
        }
        due.fine(x, "none", x.parts(2), 0);
    }

    /** "the least BEATS (0 to 12) with which TOGETHER .. they have one READING alone". */
    private static void clearBeats0To12() {
        HornBridge zero = Due.at("port a calls ls;port b calls sl;echo 4;");
        due.fine(zero, "0", zero.clearBeats(0, 1), 0);
        HornBridge one = Due.at("port a calls l;");
        due.fine(one, "one twice at once is it alone, too", one.readings(one.together(0, 0, 0)), 2);
        due.fine(one, "1", one.clearBeats(0, 0), 1);
        HornBridge twelve = Due.at("port a calls s;port b calls lll;echo 3;");
        due.fine(twelve, "12", twelve.clearBeats(1, 0), 12);
        for (int beats = 0; beats <= 12; beats++) {
            boolean clear = twelve.readings(twelve.together(1, 0, beats)) == 1;
            due.is("clear by " + beats, clear, beats == 12);
        }
        due.fine(twelve, "the second behind the first", twelve.clearBeats(0, 1), leastClear(twelve, 0, 1));
    }

    private static int leastClear(HornBridge x, int a, int b) {
        for (int beats = 0; beats <= 12; beats++) {
            if (x.readings(x.together(a, b, beats)) == 1) {
                return beats;
            }
        }
        return -1;
    }

    private static void clearBeatsOfNone() {
        HornBridge x = Due.at("port a calls l;port b calls ss;echo 1;");
        for (int a = 0; a < 2; a++) {
            for (int b = 0; b < 2; b++) {
                due.none(x, "HEARD alike", x.clearBeats(a, b), 6);
            }
        }
        // What 13 BEATS would make has one READING alone, but 13 are too many.
        HornBridge y = Due.at("port a calls sll;port b calls llll;echo 3;");
        due.fine(y, "by 13 BEATS", y.readings(y.heard(1) | y.heard(0) << 13), 1);
        due.is("by none of 0 to 12", leastClear(y, 1, 0), -1);
        due.none(y, "not by 13", y.clearBeats(1, 0), 6);
    }

    /** "the least ECHO (0 to 9)": without an ECHO no two are alike, whatever the RIVER's. */
    private static void clearEcho() {
        HornBridge none = new HornBridge();
        due.fine(none, "without PORTS", none.clearEcho(), 0);
        HornBridge x = Due.at("port a calls l;port b calls ss;echo 1;");
        due.fine(x, "two alike with the RIVER's", x.clearEcho(), 0);
        due.fine(x, "the RIVER's stays", x.told(7), 1);
    }

    /** "the first BEAT in which no PORT's call is HEARD". */
    private static void silent() {
        silentOf("", 0);
        silentOf("echo 9;", 0);
        silentOf("port a calls s;", 1);
        silentOf("port a calls ss;echo 0;", 1);
        silentOf("port a calls ss;echo 1;", 4);
        silentOf("port a calls l;", 3);
        silentOf("port a calls llllll;", 3);
        silentOf("port a calls ll;port b calls sl;", 7);
        silentOf("port a calls ll;port b calls ssl;", 3);
        silentOf("port a calls l;echo 3;", 6);
        silentOf("port a calls l;echo 4;", 3);
        silentOf("port a calls llllll;echo 1;", 24);
        silentOf("port a calls llllll;echo 3;", 26);
    }

    private static void silentOf(String river, int want) {
        HornBridge x = Due.at(river);
        due.fine(x, "silent " + river, x.silent(), want);
    }

    // ---- CODES

    /** "so many (1 to 4) calls of at most so many blasts (1 to 4) for an ECHO"; "an ECHO 0 to 9; 6: there is none". */
    private static void codesOf1To4() {
        HornBridge x = new HornBridge();
        for (int wrong : new int[] {Integer.MIN_VALUE, -1, 0, 5, 6, Integer.MAX_VALUE}) {
            due.none(x, wrong + " calls", x.code(wrong, 1, 0), 1);
            due.none(x, "of " + wrong + " blasts", x.code(1, wrong, 0), 1);
        }
        for (int wrong : new int[] {Integer.MIN_VALUE, -1, 10, Integer.MAX_VALUE}) {
            due.none(x, "ECHO " + wrong, x.code(1, 1, wrong), 1);
        }
        due.none(x, "a number that can't be, and none", x.code(3, 1, 10), 1);
        due.none(x, "none told yet", x.codeAt(0), 6);
        for (int echo = 0; echo <= 9; echo++) {
            for (int blasts = 1; blasts <= 4; blasts++) {
                due.fine(x, "one call", x.code(1, blasts, echo), 1);
                due.fine(x, "two calls", x.code(2, blasts, echo), 2);
            }
            due.none(x, "three of one blast", x.code(3, 1, echo), 6);
            due.none(x, "four of one blast", x.code(4, 1, echo), 6);
            for (int blasts = 2; blasts <= 4; blasts++) {
                due.fine(x, "three calls", x.code(3, blasts, echo), 4);
                due.fine(x, "four calls", x.code(4, blasts, echo), 6);
            }
        }
    }

    /** "The k-th call of it .. by code() latest with STATUS 0". */
    private static void codeAtTells() {
        HornBridge x = Due.at("port a calls l;echo 1;");
        long[] letters = {12, 19, 12 * 32 + 12, 12 * 32 + 19};
        for (int many = 4; many >= 1; many--) {
            due.is("code", x.code(many, 4, 9) > 0, true);
            x.code(3, 1, 0);
            x.code(0, 1, 0);
            for (int k = 0; k < many; k++) {
                due.fine(x, "codeAt(" + k + ")", x.codeAt(k), letters[k]);
            }
            for (int k : new int[] {Integer.MIN_VALUE, -1, many, 4, Integer.MAX_VALUE}) {
                due.none(x, "codeAt(" + k + ")", x.codeAt(k), 6);
            }
        }
    }
}
