/** What the tests share: a text fed to an object, and the answers that are due. */
final class Due {
    private int wrong = 0;
    private int asked = 0;

    void is(String call, long got, long want) {
        asked++;
        if (got != want) {
            wrong++;
            System.out.println(call + " answered " + got + ", due is " + want);
        }
    }

    void is(String call, boolean got, boolean want) {
        is(call, got ? 1 : 0, want ? 1 : 0);
    }

    /** The answer is NONE, with this STATUS. */
    void none(HornBridge x, String call, long got, int status) {
        is(call, got, HornBridge.NONE);
        is(call + " STATUS", x.status(), status);
    }

    /** The answer is false, with this STATUS. */
    void no(HornBridge x, String call, boolean got, int status) {
        is(call, got, false);
        is(call + " STATUS", x.status(), status);
    }

    /** The answer is this one, with STATUS 0. */
    void fine(HornBridge x, String call, long got, long want) {
        is(call, got, want);
        is(call + " STATUS", x.status(), 0);
    }

    void fine(HornBridge x, String call, boolean got) {
        fine(x, call, got ? 1 : 0, 1);
    }

    void fraction(HornBridge x, String call, long top, long bottom) {
        is(call + " top", x.top(), top);
        is(call + " bottom", x.bottom(), bottom);
    }

    /** A FAULT of a RIVER, at this place. */
    void riverFault(String text, int kind, int place) {
        HornBridge x = new HornBridge();
        none(x, "river " + text, river(x, text), 9);
        is("FAULT of " + text, x.fault(0), kind);
        is("place of " + text, x.fault(1), place);
    }

    /** A FAULT of RULES, at this place. */
    void rulesFault(String text, int kind, int place) {
        HornBridge x = new HornBridge();
        none(x, "rules " + text, rules(x, text), 9);
        is("FAULT of " + text, x.fault(0), kind);
        is("place of " + text, x.fault(1), place);
    }

    /** A FAULT of a RIVER, at the place of the ^, which is no part of the text. */
    void riverFaultAt(int kind, String marked) {
        riverFault(marked.replace("^", ""), kind, marked.indexOf('^'));
    }

    /** A FAULT of RULES, at the place of the ^, which is no part of the text. */
    void rulesFaultAt(int kind, String marked) {
        rulesFault(marked.replace("^", ""), kind, marked.indexOf('^'));
    }

    /** A RIVER of so many SHIPS, without a FAULT. */
    HornBridge riverTaken(String text, int ships) {
        HornBridge x = new HornBridge();
        fine(x, "river " + text, river(x, text), ships);
        is("no FAULT of " + text, x.fault(0), 0);
        is("no place of " + text, x.fault(1), -1);
        return x;
    }

    /** So many RULES, without a FAULT. */
    HornBridge rulesTaken(String text, int rules) {
        HornBridge x = new HornBridge();
        fine(x, "rules " + text, rules(x, text), rules);
        is("no FAULT of " + text, x.fault(0), 0);
        is("no place of " + text, x.fault(1), -1);
        return x;
    }

    /** A day: all WAITS, then what kept() tells. */
    void day(HornBridge x, int seed, int waits, int... kept) {
        fine(x, "keep(" + seed + ")", x.keep(seed), waits);
        for (int what = 0; what < kept.length; what++) {
            fine(x, "kept(" + what + ")", x.kept(what), kept[what]);
        }
    }

    /** The acts of the PLAN: 0 a SHIP, 1 a CART, 2 a turn; the minute; who. */
    void acts(HornBridge x, int[]... acts) {
        fine(x, "plan", x.plan(), acts.length);
        for (int k = 0; k < acts.length; k++) {
            fine(x, "act " + k, x.planAt(k, 0), acts[k][0]);
            fine(x, "minute of act " + k, x.planAt(k, 1), acts[k][1]);
            if (acts[k][0] == 2) {
                none(x, "who of turn " + k, x.planAt(k, 2), 6);
            } else {
                fine(x, "who of act " + k, x.planAt(k, 2), acts[k][2]);
            }
        }
        none(x, "behind all acts", x.planAt(acts.length, 0), 6);
        none(x, "ahead of all acts", x.planAt(-1, 0), 6);
    }

    static HornBridge at(String river, String rules) {
        HornBridge x = at(river);
        if (rules(x, rules) == HornBridge.NONE) {
            throw new IllegalArgumentException(rules + " has FAULT " + x.fault(0) + " at " + x.fault(1));
        }
        return x;
    }

    static HornBridge at(String river) {
        HornBridge x = new HornBridge();
        if (river(x, river) == HornBridge.NONE) {
            throw new IllegalArgumentException(river + " has FAULT " + x.fault(0) + " at " + x.fault(1));
        }
        return x;
    }

    static int river(HornBridge x, String text) {
        feed(x, text);
        return x.river(text.length());
    }

    static int rules(HornBridge x, String text) {
        feed(x, text);
        return x.rules(text.length());
    }

    static int feed(HornBridge x, String text) {
        int fed = 0;
        for (int i = 0; i < text.length(); i += 20) {
            fed = x.feed(four(text, i), four(text, i + 4), four(text, i + 8), four(text, i + 12), four(text, i + 16));
        }
        return fed;
    }

    private static int four(String text, int from) {
        int all = 0;
        for (int i = from; i < from + 4; i++) {
            all = all << 8 | (i < text.length() ? text.charAt(i) & 255 : 0);
        }
        return all;
    }

    void end(String test) {
        System.out.println(test + ": " + asked + " answers, " + wrong + " of them wrong");
        if (wrong != 0) {
            System.exit(1);
        }
    }
}
